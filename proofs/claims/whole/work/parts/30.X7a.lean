theorem hSX7_has : yX7_has.cls ≠ "java/lang/invoke/MethodHandle" ∧ yX7_has.cls ≠ "java/lang/invoke/VarHandle" ∧ (parseMethodDescriptor yX7_has.desc).map (fun d => d.parameters.length) = some 1 := by decide +kernel
theorem hVX7_has : yX7_has.cls = RX7 ∧ yX7_has.cls ≠ "java/lang/invoke/MethodHandle" ∧ yX7_has.cls ≠ "java/lang/invoke/VarHandle" ∧ (parseMethodDescriptor yX7_has.desc).map (fun d => d.parameters.length) = some 1 := by decide +kernel
theorem vX7_has_7 : ∀ w ∈ u_ws RX7 TX7 8, w ∈ wsX7_has := by decide +kernel
theorem kX7_has_24 : Cond.fieldLink RX7 24 (TX7 4).1 (TX7 4).2.1 (TX7 4).2.2.1 ∈ wsX7_has := by decide +kernel
def fX7_has (μ : rj_M) (a0 : Int32) : Int32 := (if a0 < 0 then 0 else (if 16 ≤ a0 then 0 else (if (μ.1 13 a0.toNatClampNeg) = 0 then 0 else 1)))
set_option maxHeartbeats 4000000 in
set_option maxRecDepth 100000 in
theorem sX7_has {g : rj_G} {ω : rj_W} (hω : rj_ok ω) (μ : rj_M) (a0 : Int32)   : rj_Sp g yX7_has wsX7_has (rj_rm 0 0) [.ref (ω.2.2 8), .int a0] ω μ (rj_D (.inl (some (.int (fX7_has μ a0)))) ω μ) := by
  refine rj_of' (cc := cX7_has) (nL := 2) (ret := (some .boolean)) (own := RX7) (l0 := [(0, .ref (ω.2.2 8)), (1, .int a0)]) rfl (by decide +kernel) rfl (Nat.le_of_ble_eq_true rfl) rfl ?_
  refine rj_iload_n 1 dX7_has_0 rfl rfl ?_
  refine rj_if_lt dX7_has_1 rfl rfl (fun h1 => ?_) (fun h1 => ?_)
  · refine rj_iconst (v := 0) dX7_has_23 rfl (by decide) ?_
    exact rj_zret dX7_has_24 rfl rfl (Nat.le_of_ble_eq_true rfl) (Nat.le_of_ble_eq_true rfl) ⟨(by unfold fX7_has; rw [if_pos h1]; try rfl), rfl, rfl⟩
  · refine rj_iload_n 1 dX7_has_4 rfl rfl ?_
    refine rj_bipush (v := 16) dX7_has_5 rfl (by decide) ?_
    refine rj_icmp_ge dX7_has_7 rfl rfl (fun h2 => ?_) (fun h2 => ?_)
    · refine rj_iconst (v := 0) dX7_has_23 rfl (by decide) ?_
      exact rj_zret dX7_has_24 rfl rfl (Nat.le_of_ble_eq_true rfl) (Nat.le_of_ble_eq_true rfl) ⟨(by unfold fX7_has; rw [if_neg h1]; rw [if_pos h2]; try rfl), rfl, rfl⟩
    · refine rj_aload_n 0 dX7_has_10 rfl rfl ?_
      refine rj_getR (C0 := RX7) (T := TX7) (N := 8) (j := 4) (r := 13) dX7_has_11 rfl vX7_has_7 rfl (rj_lt hω (k := 8) rfl) (rj_sh hω ly_8) (by decide) kX7_has_24 rfl ?_
      refine rj_iload_n 1 dX7_has_14 rfl rfl ?_
      refine rj_iald dX7_has_15 rfl (rj_lt hω (k := 13) rfl) (rj_sh hω ly_13) (rj_in h1 h2 rfl) ?_
      refine rj_if_eq dX7_has_16 rfl rfl (fun h3 => ?_) (fun h3 => ?_)
      · refine rj_iconst (v := 0) dX7_has_23 rfl (by decide) ?_
        exact rj_zret dX7_has_24 rfl rfl (Nat.le_of_ble_eq_true rfl) (Nat.le_of_ble_eq_true rfl) ⟨(by unfold fX7_has; rw [if_neg h1]; rw [if_neg h2]; rw [if_pos h3]; try rfl), rfl, rfl⟩
      · refine rj_iconst (v := 1) dX7_has_19 rfl (by decide) ?_
        refine rj_goto dX7_has_20 rfl ?_
        exact rj_zret dX7_has_24 rfl rfl (Nat.le_of_ble_eq_true rfl) (Nat.le_of_ble_eq_true rfl) ⟨(by unfold fX7_has; rw [if_neg h1]; rw [if_neg h2]; rw [if_neg h3]; try rfl), rfl, rfl⟩
theorem nX7_has (μ : rj_M) (a0 : Int32) : narrow .boolean (.int (fX7_has μ a0)) = .int (fX7_has μ a0) := by
  unfold fX7_has
  (repeat (first | rfl | split))
theorem rj_hasin {μ : rj_M} {a : Int32} (h : ¬ (fX7_has μ a) = 0) : vp_in a 16 := by
  unfold fX7_has at h
  by_cases h1 : a < 0
  · rw [if_pos h1] at h; exact absurd rfl h
  · rw [if_neg h1] at h
    by_cases h2 : 16 ≤ a
    · rw [if_pos h2] at h; exact absurd rfl h
    · exact rj_in h1 h2 rfl
theorem hSX7_stageOf : yX7_stageOf.cls ≠ "java/lang/invoke/MethodHandle" ∧ yX7_stageOf.cls ≠ "java/lang/invoke/VarHandle" ∧ (parseMethodDescriptor yX7_stageOf.desc).map (fun d => d.parameters.length) = some 1 := by decide +kernel
theorem hVX7_stageOf : yX7_stageOf.cls = RX7 ∧ yX7_stageOf.cls ≠ "java/lang/invoke/MethodHandle" ∧ yX7_stageOf.cls ≠ "java/lang/invoke/VarHandle" ∧ (parseMethodDescriptor yX7_stageOf.desc).map (fun d => d.parameters.length) = some 1 := by decide +kernel
theorem vX7_stageOf_7 : ∀ w ∈ u_ws RX7 TX7 8, w ∈ wsX7_stageOf := by decide +kernel
theorem kX7_stageOf_9 : Cond.fieldLink RX7 9 (TX7 0).1 (TX7 0).2.1 (TX7 0).2.2.1 ∈ wsX7_stageOf := by decide +kernel
def fX7_stageOf (μ : rj_M) (a0 : Int32) : Int32 := (if (fX7_has μ a0) = 0 then (-1) else (μ.1 9 a0.toNatClampNeg))
set_option maxHeartbeats 4000000 in
set_option maxRecDepth 100000 in
theorem sX7_stageOf {g : rj_G} {ω : rj_W} (hω : rj_ok ω) (μ : rj_M) (a0 : Int32)   : rj_Sp g yX7_stageOf wsX7_stageOf (rj_rm 1 0) [.ref (ω.2.2 8), .int a0] ω μ (rj_D (.inl (some (.int (fX7_stageOf μ a0)))) ω μ) := by
  refine rj_of' (cc := cX7_stageOf) (nL := 2) (ret := (some .int)) (own := RX7) (l0 := [(0, .ref (ω.2.2 8)), (1, .int a0)]) rfl (by decide +kernel) rfl (Nat.le_of_ble_eq_true rfl) rfl ?_
  refine rj_aload_n 0 dX7_stageOf_0 rfl rfl ?_
  refine rj_iload_n 1 dX7_stageOf_1 rfl rfl ?_
  refine rj_cV (rest := []) (sX7_has (g := g) (ω := ω) hω μ a0  ) gX7_stageOf_X7_has (rj_lt hω (k := 8) rfl) (rj_sh hω ly_8) rfl rfl hVX7_has ⟨Nat.le_of_ble_eq_true rfl, Nat.le_of_ble_eq_true rfl⟩ dX7_stageOf_2 rfl rfl rfl (Nat.le_of_ble_eq_true rfl) rfl (Nat.le_of_ble_eq_true rfl) rfl ?_
  refine rj_if_eq dX7_stageOf_5 rfl rfl (fun h1 => ?_) (fun h1 => ?_)
  · refine rj_iconst (v := (-1)) dX7_stageOf_17 rfl (by decide) ?_
    exact rj_iret dX7_stageOf_18 rfl (Nat.le_of_ble_eq_true rfl) (Nat.le_of_ble_eq_true rfl) ⟨(by unfold fX7_stageOf; rw [if_pos h1]; try rfl), rfl, rfl⟩
  · refine rj_aload_n 0 dX7_stageOf_8 rfl rfl ?_
    refine rj_getR (C0 := RX7) (T := TX7) (N := 8) (j := 0) (r := 9) dX7_stageOf_9 rfl vX7_stageOf_7 rfl (rj_lt hω (k := 8) rfl) (rj_sh hω ly_8) (by decide) kX7_stageOf_9 rfl ?_
    refine rj_iload_n 1 dX7_stageOf_12 rfl rfl ?_
    refine rj_iald dX7_stageOf_13 rfl (rj_lt hω (k := 9) rfl) (rj_sh hω ly_9) (rj_hasin h1) ?_
    refine rj_goto dX7_stageOf_14 rfl ?_
    exact rj_iret dX7_stageOf_18 rfl (Nat.le_of_ble_eq_true rfl) (Nat.le_of_ble_eq_true rfl) ⟨(by unfold fX7_stageOf; rw [if_neg h1]; try rfl), rfl, rfl⟩
theorem hSX7_beginOf : yX7_beginOf.cls ≠ "java/lang/invoke/MethodHandle" ∧ yX7_beginOf.cls ≠ "java/lang/invoke/VarHandle" ∧ (parseMethodDescriptor yX7_beginOf.desc).map (fun d => d.parameters.length) = some 1 := by decide +kernel
theorem hVX7_beginOf : yX7_beginOf.cls = RX7 ∧ yX7_beginOf.cls ≠ "java/lang/invoke/MethodHandle" ∧ yX7_beginOf.cls ≠ "java/lang/invoke/VarHandle" ∧ (parseMethodDescriptor yX7_beginOf.desc).map (fun d => d.parameters.length) = some 1 := by decide +kernel
theorem vX7_beginOf_7 : ∀ w ∈ u_ws RX7 TX7 8, w ∈ wsX7_beginOf := by decide +kernel
theorem kX7_beginOf_15 : Cond.fieldLink RX7 15 (TX7 1).1 (TX7 1).2.1 (TX7 1).2.2.1 ∈ wsX7_beginOf := by decide +kernel
def fX7_beginOf (μ : rj_M) (a0 : Int32) : Int32 := (if (fX7_has μ a0) = 0 then (-1) else (μ.1 10 a0.toNatClampNeg))
set_option maxHeartbeats 4000000 in
set_option maxRecDepth 100000 in
theorem sX7_beginOf {g : rj_G} {ω : rj_W} (hω : rj_ok ω) (μ : rj_M) (a0 : Int32)   : rj_Sp g yX7_beginOf wsX7_beginOf (rj_rm 1 0) [.ref (ω.2.2 8), .int a0] ω μ (rj_D (.inl (some (.int (fX7_beginOf μ a0)))) ω μ) := by
  refine rj_of' (cc := cX7_beginOf) (nL := 2) (ret := (some .int)) (own := RX7) (l0 := [(0, .ref (ω.2.2 8)), (1, .int a0)]) rfl (by decide +kernel) rfl (Nat.le_of_ble_eq_true rfl) rfl ?_
  refine rj_aload_n 0 dX7_beginOf_0 rfl rfl ?_
  refine rj_iload_n 1 dX7_beginOf_1 rfl rfl ?_
  refine rj_cV (rest := []) (sX7_has (g := g) (ω := ω) hω μ a0  ) gX7_beginOf_X7_has (rj_lt hω (k := 8) rfl) (rj_sh hω ly_8) rfl rfl hVX7_has ⟨Nat.le_of_ble_eq_true rfl, Nat.le_of_ble_eq_true rfl⟩ dX7_beginOf_2 rfl rfl rfl (Nat.le_of_ble_eq_true rfl) rfl (Nat.le_of_ble_eq_true rfl) rfl ?_
  refine rj_if_eq dX7_beginOf_5 rfl rfl (fun h1 => ?_) (fun h1 => ?_)
  · refine rj_iconst (v := (-1)) dX7_beginOf_17 rfl (by decide) ?_
    exact rj_iret dX7_beginOf_18 rfl (Nat.le_of_ble_eq_true rfl) (Nat.le_of_ble_eq_true rfl) ⟨(by unfold fX7_beginOf; rw [if_pos h1]; try rfl), rfl, rfl⟩
  · refine rj_aload_n 0 dX7_beginOf_8 rfl rfl ?_
    refine rj_getR (C0 := RX7) (T := TX7) (N := 8) (j := 1) (r := 10) dX7_beginOf_9 rfl vX7_beginOf_7 rfl (rj_lt hω (k := 8) rfl) (rj_sh hω ly_8) (by decide) kX7_beginOf_15 rfl ?_
    refine rj_iload_n 1 dX7_beginOf_12 rfl rfl ?_
    refine rj_iald dX7_beginOf_13 rfl (rj_lt hω (k := 10) rfl) (rj_sh hω ly_10) (rj_hasin h1) ?_
    refine rj_goto dX7_beginOf_14 rfl ?_
    exact rj_iret dX7_beginOf_18 rfl (Nat.le_of_ble_eq_true rfl) (Nat.le_of_ble_eq_true rfl) ⟨(by unfold fX7_beginOf; rw [if_neg h1]; try rfl), rfl, rfl⟩
theorem hSX7_endOf : yX7_endOf.cls ≠ "java/lang/invoke/MethodHandle" ∧ yX7_endOf.cls ≠ "java/lang/invoke/VarHandle" ∧ (parseMethodDescriptor yX7_endOf.desc).map (fun d => d.parameters.length) = some 1 := by decide +kernel
theorem hVX7_endOf : yX7_endOf.cls = RX7 ∧ yX7_endOf.cls ≠ "java/lang/invoke/MethodHandle" ∧ yX7_endOf.cls ≠ "java/lang/invoke/VarHandle" ∧ (parseMethodDescriptor yX7_endOf.desc).map (fun d => d.parameters.length) = some 1 := by decide +kernel
theorem vX7_endOf_7 : ∀ w ∈ u_ws RX7 TX7 8, w ∈ wsX7_endOf := by decide +kernel
theorem kX7_endOf_15 : Cond.fieldLink RX7 15 (TX7 1).1 (TX7 1).2.1 (TX7 1).2.2.1 ∈ wsX7_endOf := by decide +kernel
theorem kX7_endOf_18 : Cond.fieldLink RX7 18 (TX7 2).1 (TX7 2).2.1 (TX7 2).2.2.1 ∈ wsX7_endOf := by decide +kernel
def fX7_endOf (μ : rj_M) (a0 : Int32) : Int32 := (if (fX7_has μ a0) = 0 then (-1) else ((μ.1 10 a0.toNatClampNeg) + (μ.1 11 a0.toNatClampNeg)))
set_option maxHeartbeats 4000000 in
set_option maxRecDepth 100000 in
theorem sX7_endOf {g : rj_G} {ω : rj_W} (hω : rj_ok ω) (μ : rj_M) (a0 : Int32)   : rj_Sp g yX7_endOf wsX7_endOf (rj_rm 1 0) [.ref (ω.2.2 8), .int a0] ω μ (rj_D (.inl (some (.int (fX7_endOf μ a0)))) ω μ) := by
  refine rj_of' (cc := cX7_endOf) (nL := 2) (ret := (some .int)) (own := RX7) (l0 := [(0, .ref (ω.2.2 8)), (1, .int a0)]) rfl (by decide +kernel) rfl (Nat.le_of_ble_eq_true rfl) rfl ?_
  refine rj_aload_n 0 dX7_endOf_0 rfl rfl ?_
  refine rj_iload_n 1 dX7_endOf_1 rfl rfl ?_
  refine rj_cV (rest := []) (sX7_has (g := g) (ω := ω) hω μ a0  ) gX7_endOf_X7_has (rj_lt hω (k := 8) rfl) (rj_sh hω ly_8) rfl rfl hVX7_has ⟨Nat.le_of_ble_eq_true rfl, Nat.le_of_ble_eq_true rfl⟩ dX7_endOf_2 rfl rfl rfl (Nat.le_of_ble_eq_true rfl) rfl (Nat.le_of_ble_eq_true rfl) rfl ?_
  refine rj_if_eq dX7_endOf_5 rfl rfl (fun h1 => ?_) (fun h1 => ?_)
  · refine rj_iconst (v := (-1)) dX7_endOf_24 rfl (by decide) ?_
    exact rj_iret dX7_endOf_25 rfl (Nat.le_of_ble_eq_true rfl) (Nat.le_of_ble_eq_true rfl) ⟨(by unfold fX7_endOf; rw [if_pos h1]; try rfl), rfl, rfl⟩
  · refine rj_aload_n 0 dX7_endOf_8 rfl rfl ?_
    refine rj_getR (C0 := RX7) (T := TX7) (N := 8) (j := 1) (r := 10) dX7_endOf_9 rfl vX7_endOf_7 rfl (rj_lt hω (k := 8) rfl) (rj_sh hω ly_8) (by decide) kX7_endOf_15 rfl ?_
    refine rj_iload_n 1 dX7_endOf_12 rfl rfl ?_
    refine rj_iald dX7_endOf_13 rfl (rj_lt hω (k := 10) rfl) (rj_sh hω ly_10) (rj_hasin h1) ?_
    refine rj_aload_n 0 dX7_endOf_14 rfl rfl ?_
    refine rj_getR (C0 := RX7) (T := TX7) (N := 8) (j := 2) (r := 11) dX7_endOf_15 rfl vX7_endOf_7 rfl (rj_lt hω (k := 8) rfl) (rj_sh hω ly_8) (by decide) kX7_endOf_18 rfl ?_
    refine rj_iload_n 1 dX7_endOf_18 rfl rfl ?_
    refine rj_iald dX7_endOf_19 rfl (rj_lt hω (k := 11) rfl) (rj_sh hω ly_11) (rj_hasin h1) ?_
    refine rj_iadd dX7_endOf_20 rfl ?_
    refine rj_goto dX7_endOf_21 rfl ?_
    exact rj_iret dX7_endOf_25 rfl (Nat.le_of_ble_eq_true rfl) (Nat.le_of_ble_eq_true rfl) ⟨(by unfold fX7_endOf; rw [if_neg h1]; try rfl), rfl, rfl⟩
theorem hSX7_dayOf : yX7_dayOf.cls ≠ "java/lang/invoke/MethodHandle" ∧ yX7_dayOf.cls ≠ "java/lang/invoke/VarHandle" ∧ (parseMethodDescriptor yX7_dayOf.desc).map (fun d => d.parameters.length) = some 1 := by decide +kernel
theorem hVX7_dayOf : yX7_dayOf.cls = RX7 ∧ yX7_dayOf.cls ≠ "java/lang/invoke/MethodHandle" ∧ yX7_dayOf.cls ≠ "java/lang/invoke/VarHandle" ∧ (parseMethodDescriptor yX7_dayOf.desc).map (fun d => d.parameters.length) = some 1 := by decide +kernel
theorem vX7_dayOf_7 : ∀ w ∈ u_ws RX7 TX7 8, w ∈ wsX7_dayOf := by decide +kernel
theorem kX7_dayOf_15 : Cond.fieldLink RX7 15 (TX7 1).1 (TX7 1).2.1 (TX7 1).2.2.1 ∈ wsX7_dayOf := by decide +kernel
def fX7_dayOf (μ : rj_M) (a0 : Int32) : Int32 := (if (fX7_has μ a0) = 0 then (-1) else ((μ.1 10 a0.toNatClampNeg) / 1440))
set_option maxHeartbeats 4000000 in
set_option maxRecDepth 100000 in
theorem sX7_dayOf {g : rj_G} {ω : rj_W} (hω : rj_ok ω) (μ : rj_M) (a0 : Int32)   : rj_Sp g yX7_dayOf wsX7_dayOf (rj_rm 1 0) [.ref (ω.2.2 8), .int a0] ω μ (rj_D (.inl (some (.int (fX7_dayOf μ a0)))) ω μ) := by
  refine rj_of' (cc := cX7_dayOf) (nL := 2) (ret := (some .int)) (own := RX7) (l0 := [(0, .ref (ω.2.2 8)), (1, .int a0)]) rfl (by decide +kernel) rfl (Nat.le_of_ble_eq_true rfl) rfl ?_
  refine rj_aload_n 0 dX7_dayOf_0 rfl rfl ?_
  refine rj_iload_n 1 dX7_dayOf_1 rfl rfl ?_
  refine rj_cV (rest := []) (sX7_has (g := g) (ω := ω) hω μ a0  ) gX7_dayOf_X7_has (rj_lt hω (k := 8) rfl) (rj_sh hω ly_8) rfl rfl hVX7_has ⟨Nat.le_of_ble_eq_true rfl, Nat.le_of_ble_eq_true rfl⟩ dX7_dayOf_2 rfl rfl rfl (Nat.le_of_ble_eq_true rfl) rfl (Nat.le_of_ble_eq_true rfl) rfl ?_
  refine rj_if_eq dX7_dayOf_5 rfl rfl (fun h1 => ?_) (fun h1 => ?_)
  · refine rj_iconst (v := (-1)) dX7_dayOf_21 rfl (by decide) ?_
    exact rj_iret dX7_dayOf_22 rfl (Nat.le_of_ble_eq_true rfl) (Nat.le_of_ble_eq_true rfl) ⟨(by unfold fX7_dayOf; rw [if_pos h1]; try rfl), rfl, rfl⟩
  · refine rj_aload_n 0 dX7_dayOf_8 rfl rfl ?_
    refine rj_getR (C0 := RX7) (T := TX7) (N := 8) (j := 1) (r := 10) dX7_dayOf_9 rfl vX7_dayOf_7 rfl (rj_lt hω (k := 8) rfl) (rj_sh hω ly_8) (by decide) kX7_dayOf_15 rfl ?_
    refine rj_iload_n 1 dX7_dayOf_12 rfl rfl ?_
    refine rj_iald dX7_dayOf_13 rfl (rj_lt hω (k := 10) rfl) (rj_sh hω ly_10) (rj_hasin h1) ?_
    refine rj_sipush (v := 1440) dX7_dayOf_14 rfl (by decide) ?_
    refine rj_idiv dX7_dayOf_17 rfl (by decide) ?_
    refine rj_goto dX7_dayOf_18 rfl ?_
    exact rj_iret dX7_dayOf_22 rfl (Nat.le_of_ble_eq_true rfl) (Nat.le_of_ble_eq_true rfl) ⟨(by unfold fX7_dayOf; rw [if_neg h1]; try rfl), rfl, rfl⟩
theorem hSX7_membersOf : yX7_membersOf.cls ≠ "java/lang/invoke/MethodHandle" ∧ yX7_membersOf.cls ≠ "java/lang/invoke/VarHandle" ∧ (parseMethodDescriptor yX7_membersOf.desc).map (fun d => d.parameters.length) = some 1 := by decide +kernel
theorem hVX7_membersOf : yX7_membersOf.cls = RX7 ∧ yX7_membersOf.cls ≠ "java/lang/invoke/MethodHandle" ∧ yX7_membersOf.cls ≠ "java/lang/invoke/VarHandle" ∧ (parseMethodDescriptor yX7_membersOf.desc).map (fun d => d.parameters.length) = some 1 := by decide +kernel
theorem vX7_membersOf_7 : ∀ w ∈ u_ws RX7 TX7 8, w ∈ wsX7_membersOf := by decide +kernel
theorem kX7_membersOf_24 : Cond.fieldLink RX7 24 (TX7 4).1 (TX7 4).2.1 (TX7 4).2.2.1 ∈ wsX7_membersOf := by decide +kernel
def fX7_membersOf (μ : rj_M) (a0 : Int32) : Int32 := (if (fX7_has μ a0) = 0 then 0 else (μ.1 13 a0.toNatClampNeg))
set_option maxHeartbeats 4000000 in
set_option maxRecDepth 100000 in
theorem sX7_membersOf {g : rj_G} {ω : rj_W} (hω : rj_ok ω) (μ : rj_M) (a0 : Int32)   : rj_Sp g yX7_membersOf wsX7_membersOf (rj_rm 1 0) [.ref (ω.2.2 8), .int a0] ω μ (rj_D (.inl (some (.int (fX7_membersOf μ a0)))) ω μ) := by
  refine rj_of' (cc := cX7_membersOf) (nL := 2) (ret := (some .int)) (own := RX7) (l0 := [(0, .ref (ω.2.2 8)), (1, .int a0)]) rfl (by decide +kernel) rfl (Nat.le_of_ble_eq_true rfl) rfl ?_
  refine rj_aload_n 0 dX7_membersOf_0 rfl rfl ?_
  refine rj_iload_n 1 dX7_membersOf_1 rfl rfl ?_
  refine rj_cV (rest := []) (sX7_has (g := g) (ω := ω) hω μ a0  ) gX7_membersOf_X7_has (rj_lt hω (k := 8) rfl) (rj_sh hω ly_8) rfl rfl hVX7_has ⟨Nat.le_of_ble_eq_true rfl, Nat.le_of_ble_eq_true rfl⟩ dX7_membersOf_2 rfl rfl rfl (Nat.le_of_ble_eq_true rfl) rfl (Nat.le_of_ble_eq_true rfl) rfl ?_
  refine rj_if_eq dX7_membersOf_5 rfl rfl (fun h1 => ?_) (fun h1 => ?_)
  · refine rj_iconst (v := 0) dX7_membersOf_17 rfl (by decide) ?_
    exact rj_iret dX7_membersOf_18 rfl (Nat.le_of_ble_eq_true rfl) (Nat.le_of_ble_eq_true rfl) ⟨(by unfold fX7_membersOf; rw [if_pos h1]; try rfl), rfl, rfl⟩
  · refine rj_aload_n 0 dX7_membersOf_8 rfl rfl ?_
    refine rj_getR (C0 := RX7) (T := TX7) (N := 8) (j := 4) (r := 13) dX7_membersOf_9 rfl vX7_membersOf_7 rfl (rj_lt hω (k := 8) rfl) (rj_sh hω ly_8) (by decide) kX7_membersOf_24 rfl ?_
    refine rj_iload_n 1 dX7_membersOf_12 rfl rfl ?_
    refine rj_iald dX7_membersOf_13 rfl (rj_lt hω (k := 13) rfl) (rj_sh hω ly_13) (rj_hasin h1) ?_
    refine rj_goto dX7_membersOf_14 rfl ?_
    exact rj_iret dX7_membersOf_18 rfl (Nat.le_of_ble_eq_true rfl) (Nat.le_of_ble_eq_true rfl) ⟨(by unfold fX7_membersOf; rw [if_neg h1]; try rfl), rfl, rfl⟩
theorem hSX7_wishOf : yX7_wishOf.cls ≠ "java/lang/invoke/MethodHandle" ∧ yX7_wishOf.cls ≠ "java/lang/invoke/VarHandle" ∧ (parseMethodDescriptor yX7_wishOf.desc).map (fun d => d.parameters.length) = some 2 := by decide +kernel
theorem hVX7_wishOf : yX7_wishOf.cls = RX7 ∧ yX7_wishOf.cls ≠ "java/lang/invoke/MethodHandle" ∧ yX7_wishOf.cls ≠ "java/lang/invoke/VarHandle" ∧ (parseMethodDescriptor yX7_wishOf.desc).map (fun d => d.parameters.length) = some 2 := by decide +kernel
theorem vX7_wishOf_7 : ∀ w ∈ u_ws RX7 TX7 8, w ∈ wsX7_wishOf := by decide +kernel
theorem kX7_wishOf_27 : Cond.fieldLink RX7 27 (TX7 5).1 (TX7 5).2.1 (TX7 5).2.2.1 ∈ wsX7_wishOf := by decide +kernel
def fX7_wishOf (μ : rj_M) (a0 : Int32) (a1 : Int32) : Int32 := (if ((a0 * 16) + a1) < 0 then 0 else (if 192 ≤ ((a0 * 16) + a1) then 0 else (if (fX7_has μ a1) = 0 then 0 else (μ.1 14 ((a0 * 16) + a1).toNatClampNeg))))
set_option maxHeartbeats 4000000 in
set_option maxRecDepth 100000 in
theorem sX7_wishOf {g : rj_G} {ω : rj_W} (hω : rj_ok ω) (μ : rj_M) (a0 : Int32) (a1 : Int32)   : rj_Sp g yX7_wishOf wsX7_wishOf (rj_rm 1 0) [.ref (ω.2.2 8), .int a0, .int a1] ω μ (rj_D (.inl (some (.int (fX7_wishOf μ a0 a1)))) ω μ) := by
  refine rj_of' (cc := cX7_wishOf) (nL := 4) (ret := (some .int)) (own := RX7) (l0 := [(0, .ref (ω.2.2 8)), (1, .int a0), (2, .int a1)]) rfl (by decide +kernel) rfl (Nat.le_of_ble_eq_true rfl) rfl ?_
  refine rj_iload_n 1 dX7_wishOf_0 rfl rfl ?_
  refine rj_bipush (v := 16) dX7_wishOf_1 rfl (by decide) ?_
  refine rj_imul dX7_wishOf_3 rfl ?_
  refine rj_iload_n 2 dX7_wishOf_4 rfl rfl ?_
  refine rj_iadd dX7_wishOf_5 rfl ?_
  refine rj_istore_n (l' := [(3, .int ((a0 * 16) + a1)), (0, .ref (ω.2.2 8)), (1, .int a0), (2, .int a1)]) dX7_wishOf_6 rfl (rj_bl rfl) rfl ?_
  refine rj_iload_n 0 dX7_wishOf_7 rfl rfl ?_
  refine rj_if_lt dX7_wishOf_8 rfl rfl (fun h1 => ?_) (fun h1 => ?_)
  · refine rj_iconst (v := 0) dX7_wishOf_28 rfl (by decide) ?_
    refine rj_goto dX7_wishOf_29 rfl ?_
    exact rj_iret dX7_wishOf_38 rfl (Nat.le_of_ble_eq_true rfl) (Nat.le_of_ble_eq_true rfl) ⟨(by unfold fX7_wishOf; rw [if_pos h1]; try rfl), rfl, rfl⟩
  · refine rj_iload_n 0 dX7_wishOf_11 rfl rfl ?_
    refine rj_aload_n 1 dX7_wishOf_12 rfl rfl ?_
    refine rj_getR (C0 := RX7) (T := TX7) (N := 8) (j := 5) (r := 14) dX7_wishOf_13 rfl vX7_wishOf_7 rfl (rj_lt hω (k := 8) rfl) (rj_sh hω ly_8) (by decide) kX7_wishOf_27 rfl ?_
    refine rj_alen (v := 192) dX7_wishOf_16 rfl (rj_lt hω (k := 14) rfl) (rj_sh hω ly_14) rfl rfl ?_
    refine rj_icmp_ge dX7_wishOf_17 rfl rfl (fun h2 => ?_) (fun h2 => ?_)
    · refine rj_iconst (v := 0) dX7_wishOf_28 rfl (by decide) ?_
      refine rj_goto dX7_wishOf_29 rfl ?_
      exact rj_iret dX7_wishOf_38 rfl (Nat.le_of_ble_eq_true rfl) (Nat.le_of_ble_eq_true rfl) ⟨(by unfold fX7_wishOf; rw [if_neg h1]; rw [if_pos h2]; try rfl), rfl, rfl⟩
    · refine rj_aload_n 1 dX7_wishOf_20 rfl rfl ?_
      refine rj_iload_n 3 dX7_wishOf_21 rfl rfl ?_
      refine rj_cV (rest := []) (sX7_has (g := g) (ω := ω) hω μ a1  ) gX7_wishOf_X7_has (rj_lt hω (k := 8) rfl) (rj_sh hω ly_8) rfl rfl hVX7_has ⟨Nat.le_of_ble_eq_true rfl, Nat.le_of_ble_eq_true rfl⟩ dX7_wishOf_22 rfl rfl rfl (Nat.le_of_ble_eq_true rfl) rfl (Nat.le_of_ble_eq_true rfl) rfl ?_
      refine rj_if_ne dX7_wishOf_25 rfl rfl (fun h3 => ?_) (fun h3 => ?_)
      · refine rj_aload_n 1 dX7_wishOf_32 rfl rfl ?_
        refine rj_getR (C0 := RX7) (T := TX7) (N := 8) (j := 5) (r := 14) dX7_wishOf_33 rfl vX7_wishOf_7 rfl (rj_lt hω (k := 8) rfl) (rj_sh hω ly_8) (by decide) kX7_wishOf_27 rfl ?_
        refine rj_iload_n 0 dX7_wishOf_36 rfl rfl ?_
        refine rj_iald dX7_wishOf_37 rfl (rj_lt hω (k := 14) rfl) (rj_sh hω ly_14) (rj_in h1 h2 rfl) ?_
        exact rj_iret dX7_wishOf_38 rfl (Nat.le_of_ble_eq_true rfl) (Nat.le_of_ble_eq_true rfl) ⟨(by unfold fX7_wishOf; rw [if_neg h1]; rw [if_neg h2]; rw [if_neg h3]; try rfl), rfl, rfl⟩
      · refine rj_iconst (v := 0) dX7_wishOf_28 rfl (by decide) ?_
        refine rj_goto dX7_wishOf_29 rfl ?_
        exact rj_iret dX7_wishOf_38 rfl (Nat.le_of_ble_eq_true rfl) (Nat.le_of_ble_eq_true rfl) ⟨(by unfold fX7_wishOf; rw [if_neg h1]; rw [if_neg h2]; rw [if_pos h3]; try rfl), rfl, rfl⟩
theorem hSX7_pleasing : yX7_pleasing.cls ≠ "java/lang/invoke/MethodHandle" ∧ yX7_pleasing.cls ≠ "java/lang/invoke/VarHandle" ∧ (parseMethodDescriptor yX7_pleasing.desc).map (fun d => d.parameters.length) = some 1 := by decide +kernel
theorem hVX7_pleasing : yX7_pleasing.cls = RX7 ∧ yX7_pleasing.cls ≠ "java/lang/invoke/MethodHandle" ∧ yX7_pleasing.cls ≠ "java/lang/invoke/VarHandle" ∧ (parseMethodDescriptor yX7_pleasing.desc).map (fun d => d.parameters.length) = some 1 := by decide +kernel
def bX7_pleasing_4 (μ : rj_M) (a0 : Int32) (j4 : Nat) (s4 : Int32) : Int32 := (s4 + (fX7_wishOf μ (nI j4) a0))
set_option maxHeartbeats 4000000 in
set_option maxRecDepth 100000 in
theorem lX7_pleasing_4 {g : rj_G} {ω : rj_W} (hω : rj_ok ω) (μ : rj_M) (a0 : Int32)     {F : rj_F} : ∀ (r j : Nat) (s : Int32), j + r = 12 → (rj_R g RX7 cX7_pleasing 4 (some .int) wsX7_pleasing [] (rj_rm 2 0) F 0 ω μ [(0, .ref (ω.2.2 8)), (1, .int a0), (2, .int (rj_fo (bX7_pleasing_4 μ a0) r j s)), (3, .int (nI 12))] 25 []) → rj_R g RX7 cX7_pleasing 4 (some .int) wsX7_pleasing [] (rj_rm 2 0) F 0 ω μ [(0, .ref (ω.2.2 8)), (1, .int a0), (2, .int s), (3, .int (nI j))] 4 [] := by
  intro r
  induction r with
  | zero =>
    intro j s hj K
    have e0 : j = 12 := by omega
    have hge : 12 ≤ nI j := by
      rw [e0]
      exact Int32.le_refl _
    refine rj_iload_n 3 dX7_pleasing_4 rfl rfl ?_
    refine rj_bipush (v := 12) dX7_pleasing_5 rfl (by decide) ?_
    refine rj_icmp_ge dX7_pleasing_7 rfl rfl (fun h2 => ?_) (fun h2 => ?_)
    · have e1 : nI j = nI 12 := by rw [e0]
      rw [e1]
      exact K
    · exact absurd hge h2
  | succ r ih =>
    intro j4 s4 hj K
    have hl4 : j4 < 12 := by omega
    have hg4 : ¬ 12 ≤ nI j4 := nI_ge hl4 (rj_bl rfl)
    refine rj_iload_n 3 dX7_pleasing_4 rfl rfl ?_
    refine rj_bipush (v := 12) dX7_pleasing_5 rfl (by decide) ?_
    refine rj_icmp_ge dX7_pleasing_7 rfl rfl (fun h1 => ?_) (fun h1 => ?_)
    · exact absurd h1 hg4
    · refine rj_iload_n 2 dX7_pleasing_10 rfl rfl ?_
      refine rj_aload_n 0 dX7_pleasing_11 rfl rfl ?_
      refine rj_iload_n 3 dX7_pleasing_12 rfl rfl ?_
      refine rj_iload_n 1 dX7_pleasing_13 rfl rfl ?_
      refine rj_cV (rest := [.int s4]) (sX7_wishOf (g := g) (ω := ω) hω μ (nI j4) a0  ) gX7_pleasing_X7_wishOf (rj_lt hω (k := 8) rfl) (rj_sh hω ly_8) rfl rfl hVX7_wishOf ⟨Nat.le_of_ble_eq_true rfl, Nat.le_of_ble_eq_true rfl⟩ dX7_pleasing_14 rfl rfl rfl (Nat.le_of_ble_eq_true rfl) rfl (Nat.le_of_ble_eq_true rfl) rfl ?_
      refine rj_iadd dX7_pleasing_17 rfl ?_
      refine rj_istore_n (l' := [(2, .int (s4 + (fX7_wishOf μ (nI j4) a0))), (0, .ref (ω.2.2 8)), (1, .int a0), (3, .int (nI j4))]) dX7_pleasing_18 rfl (rj_bl rfl) rfl ?_
      refine rj_iinc (v := nI (j4 + 1)) (l' := [(3, .int (nI (j4 + 1))), (2, .int (s4 + (fX7_wishOf μ (nI j4) a0))), (0, .ref (ω.2.2 8)), (1, .int a0)]) 3 dX7_pleasing_19 rfl rfl (nI_succ j4).symm (rj_bl rfl) rfl ?_
      refine rj_goto dX7_pleasing_22 rfl ?_
      have e : bX7_pleasing_4 μ a0 j4 s4 = (s4 + (fX7_wishOf μ (nI j4) a0)) := by unfold bX7_pleasing_4; rfl
      exact rj_sub (l' := [(0, .ref (ω.2.2 8)), (1, .int a0), (2, .int (s4 + (fX7_wishOf μ (nI j4) a0))), (3, .int (nI (j4 + 1)))]) [2, 3, 1, 0] rfl (ih (j4 + 1) (s4 + (fX7_wishOf μ (nI j4) a0)) (by omega) (by rw [rj_fo_s, e] at K; exact K))
def fX7_pleasing (μ : rj_M) (a0 : Int32) : Int32 := (rj_fo (bX7_pleasing_4 μ a0) 12 0 0)
set_option maxHeartbeats 4000000 in
set_option maxRecDepth 100000 in
theorem sX7_pleasing {g : rj_G} {ω : rj_W} (hω : rj_ok ω) (μ : rj_M) (a0 : Int32)   : rj_Sp g yX7_pleasing wsX7_pleasing (rj_rm 2 0) [.ref (ω.2.2 8), .int a0] ω μ (rj_D (.inl (some (.int (fX7_pleasing μ a0)))) ω μ) := by
  refine rj_of' (cc := cX7_pleasing) (nL := 4) (ret := (some .int)) (own := RX7) (l0 := [(0, .ref (ω.2.2 8)), (1, .int a0)]) rfl (by decide +kernel) rfl (Nat.le_of_ble_eq_true rfl) rfl ?_
  refine rj_iconst (v := 0) dX7_pleasing_0 rfl (by decide) ?_
  refine rj_istore_n (l' := [(2, .int 0), (0, .ref (ω.2.2 8)), (1, .int a0)]) dX7_pleasing_1 rfl (rj_bl rfl) rfl ?_
  refine rj_iconst (v := 0) dX7_pleasing_2 rfl (by decide) ?_
  refine rj_istore_n (l' := [(3, .int 0), (2, .int 0), (0, .ref (ω.2.2 8)), (1, .int a0)]) dX7_pleasing_3 rfl (rj_bl rfl) rfl ?_
  refine rj_sub (l' := [(0, .ref (ω.2.2 8)), (1, .int a0), (2, .int 0), (3, .int (nI 0))]) [2, 3, 1, 0] rfl ?_
  refine lX7_pleasing_4 hω μ a0     12 0 0 rfl ?_
  refine rj_iload_n 2 dX7_pleasing_25 rfl rfl ?_
  exact rj_iret dX7_pleasing_26 rfl (Nat.le_of_ble_eq_true rfl) (Nat.le_of_ble_eq_true rfl) ⟨(by unfold fX7_pleasing; rfl), rfl, rfl⟩
theorem hSX7_freeNumber : yX7_freeNumber.cls ≠ "java/lang/invoke/MethodHandle" ∧ yX7_freeNumber.cls ≠ "java/lang/invoke/VarHandle" ∧ (parseMethodDescriptor yX7_freeNumber.desc).map (fun d => d.parameters.length) = some 0 := by decide +kernel
theorem hVX7_freeNumber : yX7_freeNumber.cls = RX7 ∧ yX7_freeNumber.cls ≠ "java/lang/invoke/MethodHandle" ∧ yX7_freeNumber.cls ≠ "java/lang/invoke/VarHandle" ∧ (parseMethodDescriptor yX7_freeNumber.desc).map (fun d => d.parameters.length) = some 0 := by decide +kernel
def bX7_freeNumber_2 (μ : rj_M) (j2 : Nat) (s2 : Unit) : Unit ⊕ Int32 := (if (fX7_has μ (nI j2)) = 0 then .inr (nI j2) else .inl ())
set_option maxHeartbeats 4000000 in
set_option maxRecDepth 100000 in
theorem lX7_freeNumber_2 {g : rj_G} {ω : rj_W} (hω : rj_ok ω) (μ : rj_M)     {P : rj_P} : ∀ (r j : Nat) (s : Unit), j + r = 16 → (∀ z : Unit, rj_ix (bX7_freeNumber_2 μ) r j s = .inl z → rj_R g RX7 cX7_freeNumber 2 (some .int) wsX7_freeNumber [] (rj_rm 1 0) (rj_E g (rj_rm 1 0) P) 0 ω μ [(0, .ref (ω.2.2 8)), (1, .int (nI 16))] 24 []) → (∀ z : Int32, rj_ix (bX7_freeNumber_2 μ) r j s = .inr z → P (.inl (some (.int z))) ω μ) → rj_R g RX7 cX7_freeNumber 2 (some .int) wsX7_freeNumber [] (rj_rm 1 0) (rj_E g (rj_rm 1 0) P) 0 ω μ [(0, .ref (ω.2.2 8)), (1, .int (nI j))] 2 [] := by
  intro r
  induction r with
  | zero =>
    intro j s hj K K2
    have e0 : j = 16 := by omega
    have hge : 16 ≤ nI j := by
      rw [e0]
      exact Int32.le_refl _
    refine rj_iload_n 1 dX7_freeNumber_2 rfl rfl ?_
    refine rj_bipush (v := 16) dX7_freeNumber_3 rfl (by decide) ?_
    refine rj_icmp_ge dX7_freeNumber_5 rfl rfl (fun h3 => ?_) (fun h3 => ?_)
    · have e1 : nI j = nI 16 := by rw [e0]
      rw [e1]
      exact K s rfl
    · exact absurd hge h3
  | succ r ih =>
    intro j2 s2 hj K K2
    have hl2 : j2 < 16 := by omega
    have hg2 : ¬ 16 ≤ nI j2 := nI_ge hl2 (rj_bl rfl)
    refine rj_iload_n 1 dX7_freeNumber_2 rfl rfl ?_
    refine rj_bipush (v := 16) dX7_freeNumber_3 rfl (by decide) ?_
    refine rj_icmp_ge dX7_freeNumber_5 rfl rfl (fun h1 => ?_) (fun h1 => ?_)
    · exact absurd h1 hg2
    · refine rj_aload_n 0 dX7_freeNumber_8 rfl rfl ?_
      refine rj_iload_n 1 dX7_freeNumber_9 rfl rfl ?_
      refine rj_cV (rest := []) (sX7_has (g := g) (ω := ω) hω μ (nI j2)  ) gX7_freeNumber_X7_has (rj_lt hω (k := 8) rfl) (rj_sh hω ly_8) rfl rfl hVX7_has ⟨Nat.le_of_ble_eq_true rfl, Nat.le_of_ble_eq_true rfl⟩ dX7_freeNumber_10 rfl rfl rfl (Nat.le_of_ble_eq_true rfl) rfl (Nat.le_of_ble_eq_true rfl) rfl ?_
      refine rj_if_ne dX7_freeNumber_13 rfl rfl (fun h2 => ?_) (fun h2 => ?_)
      · refine rj_iinc (v := nI (j2 + 1)) (l' := [(1, .int (nI (j2 + 1))), (0, .ref (ω.2.2 8))]) 1 dX7_freeNumber_18 rfl rfl (nI_succ j2).symm (rj_bl rfl) rfl ?_
        refine rj_goto dX7_freeNumber_21 rfl ?_
        have e : bX7_freeNumber_2 μ j2 s2 = .inl () := by unfold bX7_freeNumber_2; rw [if_neg h2]; try rfl
        exact rj_sub (l' := [(0, .ref (ω.2.2 8)), (1, .int (nI (j2 + 1)))]) [1, 0] rfl (ih (j2 + 1) () (by omega) (fun z hz => K z (by rw [rj_ix_l e]; exact hz)) (fun z hz => K2 z (by rw [rj_ix_l e]; exact hz)))
      · refine rj_iload_n 1 dX7_freeNumber_16 rfl rfl ?_
        have e : bX7_freeNumber_2 μ j2 s2 = .inr (nI j2) := by unfold bX7_freeNumber_2; rw [if_pos h2]; try rfl
        exact rj_iret dX7_freeNumber_17 rfl (Nat.le_of_ble_eq_true rfl) (Nat.le_of_ble_eq_true rfl) (K2 (nI j2) (rj_ix_r e))
def fX7_freeNumber (μ : rj_M) : Int32 := (Sum.elim (fun z2 => (-1)) (fun w2 => w2) (rj_ix (bX7_freeNumber_2 μ) 16 0 ()))
set_option maxHeartbeats 4000000 in
set_option maxRecDepth 100000 in
theorem sX7_freeNumber {g : rj_G} {ω : rj_W} (hω : rj_ok ω) (μ : rj_M)   : rj_Sp g yX7_freeNumber wsX7_freeNumber (rj_rm 1 0) [.ref (ω.2.2 8)] ω μ (rj_D (.inl (some (.int (fX7_freeNumber μ)))) ω μ) := by
  refine rj_of' (cc := cX7_freeNumber) (nL := 2) (ret := (some .int)) (own := RX7) (l0 := [(0, .ref (ω.2.2 8))]) rfl (by decide +kernel) rfl (Nat.le_of_ble_eq_true rfl) rfl ?_
  refine rj_iconst (v := 0) dX7_freeNumber_0 rfl (by decide) ?_
  refine rj_istore_n (l' := [(1, .int 0), (0, .ref (ω.2.2 8))]) dX7_freeNumber_1 rfl (rj_bl rfl) rfl ?_
  refine rj_sub (l' := [(0, .ref (ω.2.2 8)), (1, .int (nI 0))]) [1, 0] rfl ?_
  refine lX7_freeNumber_2 hω μ     16 0 () rfl (fun z2 hz2 => ?_) (fun w2 hw2 => ?_)
  · refine rj_iconst (v := (-1)) dX7_freeNumber_24 rfl (by decide) ?_
    exact rj_iret dX7_freeNumber_25 rfl (Nat.le_of_ble_eq_true rfl) (Nat.le_of_ble_eq_true rfl) ⟨(by unfold fX7_freeNumber; rw [hz2]; simp only [Sum.elim_inl]; try rfl), rfl, rfl⟩
  · exact ⟨(by unfold fX7_freeNumber; rw [hw2]; simp only [Sum.elim_inr]; try rfl), rfl, rfl⟩
theorem hSX7_numbers : yX7_numbers.cls ≠ "java/lang/invoke/MethodHandle" ∧ yX7_numbers.cls ≠ "java/lang/invoke/VarHandle" ∧ (parseMethodDescriptor yX7_numbers.desc).map (fun d => d.parameters.length) = some 0 := by decide +kernel
theorem hVX7_numbers : yX7_numbers.cls = RX7 ∧ yX7_numbers.cls ≠ "java/lang/invoke/MethodHandle" ∧ yX7_numbers.cls ≠ "java/lang/invoke/VarHandle" ∧ (parseMethodDescriptor yX7_numbers.desc).map (fun d => d.parameters.length) = some 0 := by decide +kernel
def bX7_numbers_4 (μ : rj_M) (j4 : Nat) (s4 : Int32) : Int32 := (if (fX7_has μ (nI j4)) = 0 then s4 else (s4 ||| (1 <<< ((nI j4) &&& 31))))
set_option maxHeartbeats 4000000 in
set_option maxRecDepth 100000 in
theorem lX7_numbers_4 {g : rj_G} {ω : rj_W} (hω : rj_ok ω) (μ : rj_M)     {F : rj_F} : ∀ (r j : Nat) (s : Int32), j + r = 16 → (rj_R g RX7 cX7_numbers 3 (some .int) wsX7_numbers [] (rj_rm 1 0) F 0 ω μ [(0, .ref (ω.2.2 8)), (1, .int (rj_fo (bX7_numbers_4 μ) r j s)), (2, .int (nI 16))] 30 []) → rj_R g RX7 cX7_numbers 3 (some .int) wsX7_numbers [] (rj_rm 1 0) F 0 ω μ [(0, .ref (ω.2.2 8)), (1, .int s), (2, .int (nI j))] 4 [] := by
  intro r
  induction r with
  | zero =>
    intro j s hj K
    have e0 : j = 16 := by omega
    have hge : 16 ≤ nI j := by
      rw [e0]
      exact Int32.le_refl _
    refine rj_iload_n 2 dX7_numbers_4 rfl rfl ?_
    refine rj_bipush (v := 16) dX7_numbers_5 rfl (by decide) ?_
    refine rj_icmp_ge dX7_numbers_7 rfl rfl (fun h3 => ?_) (fun h3 => ?_)
    · have e1 : nI j = nI 16 := by rw [e0]
      rw [e1]
      exact K
    · exact absurd hge h3
  | succ r ih =>
    intro j4 s4 hj K
    have hl4 : j4 < 16 := by omega
    have hg4 : ¬ 16 ≤ nI j4 := nI_ge hl4 (rj_bl rfl)
    refine rj_iload_n 2 dX7_numbers_4 rfl rfl ?_
    refine rj_bipush (v := 16) dX7_numbers_5 rfl (by decide) ?_
    refine rj_icmp_ge dX7_numbers_7 rfl rfl (fun h1 => ?_) (fun h1 => ?_)
    · exact absurd h1 hg4
    · refine rj_aload_n 0 dX7_numbers_10 rfl rfl ?_
      refine rj_iload_n 2 dX7_numbers_11 rfl rfl ?_
      refine rj_cV (rest := []) (sX7_has (g := g) (ω := ω) hω μ (nI j4)  ) gX7_numbers_X7_has (rj_lt hω (k := 8) rfl) (rj_sh hω ly_8) rfl rfl hVX7_has ⟨Nat.le_of_ble_eq_true rfl, Nat.le_of_ble_eq_true rfl⟩ dX7_numbers_12 rfl rfl rfl (Nat.le_of_ble_eq_true rfl) rfl (Nat.le_of_ble_eq_true rfl) rfl ?_
      refine rj_if_eq dX7_numbers_15 rfl rfl (fun h2 => ?_) (fun h2 => ?_)
      · refine rj_iinc (v := nI (j4 + 1)) (l' := [(2, .int (nI (j4 + 1))), (0, .ref (ω.2.2 8)), (1, .int s4)]) 2 dX7_numbers_24 rfl rfl (nI_succ j4).symm (rj_bl rfl) rfl ?_
        refine rj_goto dX7_numbers_27 rfl ?_
        have e : bX7_numbers_4 μ j4 s4 = s4 := by unfold bX7_numbers_4; rw [if_pos h2]; try rfl
        exact rj_sub (l' := [(0, .ref (ω.2.2 8)), (1, .int s4), (2, .int (nI (j4 + 1)))]) [1, 2, 0] rfl (ih (j4 + 1) s4 (by omega) (by rw [rj_fo_s, e] at K; exact K))
      · refine rj_iload_n 1 dX7_numbers_18 rfl rfl ?_
        refine rj_iconst (v := 1) dX7_numbers_19 rfl (by decide) ?_
        refine rj_iload_n 2 dX7_numbers_20 rfl rfl ?_
        refine rj_ishl dX7_numbers_21 rfl ?_
        refine rj_ior dX7_numbers_22 rfl ?_
        refine rj_istore_n (l' := [(1, .int (s4 ||| (1 <<< ((nI j4) &&& 31)))), (0, .ref (ω.2.2 8)), (2, .int (nI j4))]) dX7_numbers_23 rfl (rj_bl rfl) rfl ?_
        refine rj_iinc (v := nI (j4 + 1)) (l' := [(2, .int (nI (j4 + 1))), (1, .int (s4 ||| (1 <<< ((nI j4) &&& 31)))), (0, .ref (ω.2.2 8))]) 2 dX7_numbers_24 rfl rfl (nI_succ j4).symm (rj_bl rfl) rfl ?_
        refine rj_goto dX7_numbers_27 rfl ?_
        have e : bX7_numbers_4 μ j4 s4 = (s4 ||| (1 <<< ((nI j4) &&& 31))) := by unfold bX7_numbers_4; rw [if_neg h2]; try rfl
        exact rj_sub (l' := [(0, .ref (ω.2.2 8)), (1, .int (s4 ||| (1 <<< ((nI j4) &&& 31)))), (2, .int (nI (j4 + 1)))]) [2, 1, 0] rfl (ih (j4 + 1) (s4 ||| (1 <<< ((nI j4) &&& 31))) (by omega) (by rw [rj_fo_s, e] at K; exact K))
def fX7_numbers (μ : rj_M) : Int32 := (rj_fo (bX7_numbers_4 μ) 16 0 0)
set_option maxHeartbeats 4000000 in
set_option maxRecDepth 100000 in
theorem sX7_numbers {g : rj_G} {ω : rj_W} (hω : rj_ok ω) (μ : rj_M)   : rj_Sp g yX7_numbers wsX7_numbers (rj_rm 1 0) [.ref (ω.2.2 8)] ω μ (rj_D (.inl (some (.int (fX7_numbers μ)))) ω μ) := by
  refine rj_of' (cc := cX7_numbers) (nL := 3) (ret := (some .int)) (own := RX7) (l0 := [(0, .ref (ω.2.2 8))]) rfl (by decide +kernel) rfl (Nat.le_of_ble_eq_true rfl) rfl ?_
  refine rj_iconst (v := 0) dX7_numbers_0 rfl (by decide) ?_
  refine rj_istore_n (l' := [(1, .int 0), (0, .ref (ω.2.2 8))]) dX7_numbers_1 rfl (rj_bl rfl) rfl ?_
  refine rj_iconst (v := 0) dX7_numbers_2 rfl (by decide) ?_
  refine rj_istore_n (l' := [(2, .int 0), (1, .int 0), (0, .ref (ω.2.2 8))]) dX7_numbers_3 rfl (rj_bl rfl) rfl ?_
  refine rj_sub (l' := [(0, .ref (ω.2.2 8)), (1, .int 0), (2, .int (nI 0))]) [2, 1, 0] rfl ?_
  refine lX7_numbers_4 hω μ     16 0 0 rfl ?_
  refine rj_iload_n 1 dX7_numbers_30 rfl rfl ?_
  exact rj_iret dX7_numbers_31 rfl (Nat.le_of_ble_eq_true rfl) (Nat.le_of_ble_eq_true rfl) ⟨(by unfold fX7_numbers; rfl), rfl, rfl⟩
theorem hSX7_numbersOn : yX7_numbersOn.cls ≠ "java/lang/invoke/MethodHandle" ∧ yX7_numbersOn.cls ≠ "java/lang/invoke/VarHandle" ∧ (parseMethodDescriptor yX7_numbersOn.desc).map (fun d => d.parameters.length) = some 1 := by decide +kernel
theorem hVX7_numbersOn : yX7_numbersOn.cls = RX7 ∧ yX7_numbersOn.cls ≠ "java/lang/invoke/MethodHandle" ∧ yX7_numbersOn.cls ≠ "java/lang/invoke/VarHandle" ∧ (parseMethodDescriptor yX7_numbersOn.desc).map (fun d => d.parameters.length) = some 1 := by decide +kernel
def bX7_numbersOn_4 (μ : rj_M) (a0 : Int32) (j4 : Nat) (s4 : Int32) : Int32 := (if (fX7_stageOf μ (nI j4)) = a0 then (s4 ||| (1 <<< ((nI j4) &&& 31))) else s4)
set_option maxHeartbeats 4000000 in
set_option maxRecDepth 100000 in
theorem lX7_numbersOn_4 {g : rj_G} {ω : rj_W} (hω : rj_ok ω) (μ : rj_M) (a0 : Int32)     {F : rj_F} : ∀ (r j : Nat) (s : Int32), j + r = 16 → (rj_R g RX7 cX7_numbersOn 4 (some .int) wsX7_numbersOn [] (rj_rm 2 0) F 0 ω μ [(0, .ref (ω.2.2 8)), (1, .int a0), (2, .int (rj_fo (bX7_numbersOn_4 μ a0) r j s)), (3, .int (nI 16))] 31 []) → rj_R g RX7 cX7_numbersOn 4 (some .int) wsX7_numbersOn [] (rj_rm 2 0) F 0 ω μ [(0, .ref (ω.2.2 8)), (1, .int a0), (2, .int s), (3, .int (nI j))] 4 [] := by
  intro r
  induction r with
  | zero =>
    intro j s hj K
    have e0 : j = 16 := by omega
    have hge : 16 ≤ nI j := by
      rw [e0]
      exact Int32.le_refl _
    refine rj_iload_n 3 dX7_numbersOn_4 rfl rfl ?_
    refine rj_bipush (v := 16) dX7_numbersOn_5 rfl (by decide) ?_
    refine rj_icmp_ge dX7_numbersOn_7 rfl rfl (fun h3 => ?_) (fun h3 => ?_)
    · have e1 : nI j = nI 16 := by rw [e0]
      rw [e1]
      exact K
    · exact absurd hge h3
  | succ r ih =>
    intro j4 s4 hj K
    have hl4 : j4 < 16 := by omega
    have hg4 : ¬ 16 ≤ nI j4 := nI_ge hl4 (rj_bl rfl)
    refine rj_iload_n 3 dX7_numbersOn_4 rfl rfl ?_
    refine rj_bipush (v := 16) dX7_numbersOn_5 rfl (by decide) ?_
    refine rj_icmp_ge dX7_numbersOn_7 rfl rfl (fun h1 => ?_) (fun h1 => ?_)
    · exact absurd h1 hg4
    · refine rj_aload_n 0 dX7_numbersOn_10 rfl rfl ?_
      refine rj_iload_n 3 dX7_numbersOn_11 rfl rfl ?_
      refine rj_cV (rest := []) (sX7_stageOf (g := g) (ω := ω) hω μ (nI j4)  ) gX7_numbersOn_X7_stageOf (rj_lt hω (k := 8) rfl) (rj_sh hω ly_8) rfl rfl hVX7_stageOf ⟨Nat.le_of_ble_eq_true rfl, Nat.le_of_ble_eq_true rfl⟩ dX7_numbersOn_12 rfl rfl rfl (Nat.le_of_ble_eq_true rfl) rfl (Nat.le_of_ble_eq_true rfl) rfl ?_
      refine rj_iload_n 1 dX7_numbersOn_15 rfl rfl ?_
      refine rj_icmp_ne dX7_numbersOn_16 rfl rfl (fun h2 => ?_) (fun h2 => ?_)
      · refine rj_iinc (v := nI (j4 + 1)) (l' := [(3, .int (nI (j4 + 1))), (0, .ref (ω.2.2 8)), (1, .int a0), (2, .int s4)]) 3 dX7_numbersOn_25 rfl rfl (nI_succ j4).symm (rj_bl rfl) rfl ?_
        refine rj_goto dX7_numbersOn_28 rfl ?_
        have e : bX7_numbersOn_4 μ a0 j4 s4 = s4 := by unfold bX7_numbersOn_4; rw [if_neg h2]; try rfl
        exact rj_sub (l' := [(0, .ref (ω.2.2 8)), (1, .int a0), (2, .int s4), (3, .int (nI (j4 + 1)))]) [1, 2, 3, 0] rfl (ih (j4 + 1) s4 (by omega) (by rw [rj_fo_s, e] at K; exact K))
      · refine rj_iload_n 2 dX7_numbersOn_19 rfl rfl ?_
        refine rj_iconst (v := 1) dX7_numbersOn_20 rfl (by decide) ?_
        refine rj_iload_n 3 dX7_numbersOn_21 rfl rfl ?_
        refine rj_ishl dX7_numbersOn_22 rfl ?_
        refine rj_ior dX7_numbersOn_23 rfl ?_
        refine rj_istore_n (l' := [(2, .int (s4 ||| (1 <<< ((nI j4) &&& 31)))), (0, .ref (ω.2.2 8)), (1, .int a0), (3, .int (nI j4))]) dX7_numbersOn_24 rfl (rj_bl rfl) rfl ?_
        refine rj_iinc (v := nI (j4 + 1)) (l' := [(3, .int (nI (j4 + 1))), (2, .int (s4 ||| (1 <<< ((nI j4) &&& 31)))), (0, .ref (ω.2.2 8)), (1, .int a0)]) 3 dX7_numbersOn_25 rfl rfl (nI_succ j4).symm (rj_bl rfl) rfl ?_
        refine rj_goto dX7_numbersOn_28 rfl ?_
        have e : bX7_numbersOn_4 μ a0 j4 s4 = (s4 ||| (1 <<< ((nI j4) &&& 31))) := by unfold bX7_numbersOn_4; rw [if_pos h2]; try rfl
        exact rj_sub (l' := [(0, .ref (ω.2.2 8)), (1, .int a0), (2, .int (s4 ||| (1 <<< ((nI j4) &&& 31)))), (3, .int (nI (j4 + 1)))]) [2, 3, 1, 0] rfl (ih (j4 + 1) (s4 ||| (1 <<< ((nI j4) &&& 31))) (by omega) (by rw [rj_fo_s, e] at K; exact K))
def fX7_numbersOn (μ : rj_M) (a0 : Int32) : Int32 := (rj_fo (bX7_numbersOn_4 μ a0) 16 0 0)
set_option maxHeartbeats 4000000 in
set_option maxRecDepth 100000 in
theorem sX7_numbersOn {g : rj_G} {ω : rj_W} (hω : rj_ok ω) (μ : rj_M) (a0 : Int32)   : rj_Sp g yX7_numbersOn wsX7_numbersOn (rj_rm 2 0) [.ref (ω.2.2 8), .int a0] ω μ (rj_D (.inl (some (.int (fX7_numbersOn μ a0)))) ω μ) := by
  refine rj_of' (cc := cX7_numbersOn) (nL := 4) (ret := (some .int)) (own := RX7) (l0 := [(0, .ref (ω.2.2 8)), (1, .int a0)]) rfl (by decide +kernel) rfl (Nat.le_of_ble_eq_true rfl) rfl ?_
  refine rj_iconst (v := 0) dX7_numbersOn_0 rfl (by decide) ?_
  refine rj_istore_n (l' := [(2, .int 0), (0, .ref (ω.2.2 8)), (1, .int a0)]) dX7_numbersOn_1 rfl (rj_bl rfl) rfl ?_
  refine rj_iconst (v := 0) dX7_numbersOn_2 rfl (by decide) ?_
  refine rj_istore_n (l' := [(3, .int 0), (2, .int 0), (0, .ref (ω.2.2 8)), (1, .int a0)]) dX7_numbersOn_3 rfl (rj_bl rfl) rfl ?_
  refine rj_sub (l' := [(0, .ref (ω.2.2 8)), (1, .int a0), (2, .int 0), (3, .int (nI 0))]) [2, 3, 1, 0] rfl ?_
  refine lX7_numbersOn_4 hω μ a0     16 0 0 rfl ?_
  refine rj_iload_n 2 dX7_numbersOn_31 rfl rfl ?_
  exact rj_iret dX7_numbersOn_32 rfl (Nat.le_of_ble_eq_true rfl) (Nat.le_of_ble_eq_true rfl) ⟨(by unfold fX7_numbersOn; rfl), rfl, rfl⟩
theorem hSX7_doPiecesMeet : yX7_doPiecesMeet.cls ≠ "java/lang/invoke/MethodHandle" ∧ yX7_doPiecesMeet.cls ≠ "java/lang/invoke/VarHandle" ∧ (parseMethodDescriptor yX7_doPiecesMeet.desc).map (fun d => d.parameters.length) = some 2 := by decide +kernel
theorem hVX7_doPiecesMeet : yX7_doPiecesMeet.cls = RX7 ∧ yX7_doPiecesMeet.cls ≠ "java/lang/invoke/MethodHandle" ∧ yX7_doPiecesMeet.cls ≠ "java/lang/invoke/VarHandle" ∧ (parseMethodDescriptor yX7_doPiecesMeet.desc).map (fun d => d.parameters.length) = some 2 := by decide +kernel
theorem vX7_doPiecesMeet_7 : ∀ w ∈ u_ws RX7 TX7 8, w ∈ wsX7_doPiecesMeet := by decide +kernel
theorem kX7_doPiecesMeet_15 : Cond.fieldLink RX7 15 (TX7 1).1 (TX7 1).2.1 (TX7 1).2.2.1 ∈ wsX7_doPiecesMeet := by decide +kernel
theorem kX7_doPiecesMeet_21 : Cond.fieldLink RX7 21 (TX7 3).1 (TX7 3).2.1 (TX7 3).2.2.1 ∈ wsX7_doPiecesMeet := by decide +kernel
def fX7_doPiecesMeet (μ : rj_M) (a0 : Int32) (a1 : Int32) : Int32 := (if (fX7_has μ a0) = 0 then 0 else (if (fX7_has μ a1) = 0 then 0 else (if (fX7_endOf μ a1) ≤ ((μ.1 10 a0.toNatClampNeg) - (μ.1 12 a0.toNatClampNeg)) then 0 else (if (fX7_endOf μ a0) ≤ ((μ.1 10 a1.toNatClampNeg) - (μ.1 12 a1.toNatClampNeg)) then 0 else 1))))
set_option maxHeartbeats 4000000 in
set_option maxRecDepth 100000 in
theorem sX7_doPiecesMeet {g : rj_G} {ω : rj_W} (hω : rj_ok ω) (μ : rj_M) (a0 : Int32) (a1 : Int32)   : rj_Sp g yX7_doPiecesMeet wsX7_doPiecesMeet (rj_rm 2 0) [.ref (ω.2.2 8), .int a0, .int a1] ω μ (rj_D (.inl (some (.int (fX7_doPiecesMeet μ a0 a1)))) ω μ) := by
  refine rj_of' (cc := cX7_doPiecesMeet) (nL := 3) (ret := (some .boolean)) (own := RX7) (l0 := [(0, .ref (ω.2.2 8)), (1, .int a0), (2, .int a1)]) rfl (by decide +kernel) rfl (Nat.le_of_ble_eq_true rfl) rfl ?_
  refine rj_aload_n 0 dX7_doPiecesMeet_0 rfl rfl ?_
  refine rj_iload_n 1 dX7_doPiecesMeet_1 rfl rfl ?_
  refine rj_cV (rest := []) (sX7_has (g := g) (ω := ω) hω μ a0  ) gX7_doPiecesMeet_X7_has (rj_lt hω (k := 8) rfl) (rj_sh hω ly_8) rfl rfl hVX7_has ⟨Nat.le_of_ble_eq_true rfl, Nat.le_of_ble_eq_true rfl⟩ dX7_doPiecesMeet_2 rfl rfl rfl (Nat.le_of_ble_eq_true rfl) rfl (Nat.le_of_ble_eq_true rfl) rfl ?_
  refine rj_if_eq dX7_doPiecesMeet_5 rfl rfl (fun h1 => ?_) (fun h1 => ?_)
  · refine rj_iconst (v := 0) dX7_doPiecesMeet_62 rfl (by decide) ?_
    exact rj_zret dX7_doPiecesMeet_63 rfl rfl (Nat.le_of_ble_eq_true rfl) (Nat.le_of_ble_eq_true rfl) ⟨(by unfold fX7_doPiecesMeet; rw [if_pos h1]; try rfl), rfl, rfl⟩
  · refine rj_aload_n 0 dX7_doPiecesMeet_8 rfl rfl ?_
    refine rj_iload_n 2 dX7_doPiecesMeet_9 rfl rfl ?_
    refine rj_cV (rest := []) (sX7_has (g := g) (ω := ω) hω μ a1  ) gX7_doPiecesMeet_X7_has (rj_lt hω (k := 8) rfl) (rj_sh hω ly_8) rfl rfl hVX7_has ⟨Nat.le_of_ble_eq_true rfl, Nat.le_of_ble_eq_true rfl⟩ dX7_doPiecesMeet_10 rfl rfl rfl (Nat.le_of_ble_eq_true rfl) rfl (Nat.le_of_ble_eq_true rfl) rfl ?_
    refine rj_if_eq dX7_doPiecesMeet_13 rfl rfl (fun h2 => ?_) (fun h2 => ?_)
    · refine rj_iconst (v := 0) dX7_doPiecesMeet_62 rfl (by decide) ?_
      exact rj_zret dX7_doPiecesMeet_63 rfl rfl (Nat.le_of_ble_eq_true rfl) (Nat.le_of_ble_eq_true rfl) ⟨(by unfold fX7_doPiecesMeet; rw [if_neg h1]; rw [if_pos h2]; try rfl), rfl, rfl⟩
    · refine rj_aload_n 0 dX7_doPiecesMeet_16 rfl rfl ?_
      refine rj_getR (C0 := RX7) (T := TX7) (N := 8) (j := 1) (r := 10) dX7_doPiecesMeet_17 rfl vX7_doPiecesMeet_7 rfl (rj_lt hω (k := 8) rfl) (rj_sh hω ly_8) (by decide) kX7_doPiecesMeet_15 rfl ?_
      refine rj_iload_n 1 dX7_doPiecesMeet_20 rfl rfl ?_
      refine rj_iald dX7_doPiecesMeet_21 rfl (rj_lt hω (k := 10) rfl) (rj_sh hω ly_10) (rj_hasin h1) ?_
      refine rj_aload_n 0 dX7_doPiecesMeet_22 rfl rfl ?_
      refine rj_getR (C0 := RX7) (T := TX7) (N := 8) (j := 3) (r := 12) dX7_doPiecesMeet_23 rfl vX7_doPiecesMeet_7 rfl (rj_lt hω (k := 8) rfl) (rj_sh hω ly_8) (by decide) kX7_doPiecesMeet_21 rfl ?_
      refine rj_iload_n 1 dX7_doPiecesMeet_26 rfl rfl ?_
      refine rj_iald dX7_doPiecesMeet_27 rfl (rj_lt hω (k := 12) rfl) (rj_sh hω ly_12) (rj_hasin h1) ?_
      refine rj_isub dX7_doPiecesMeet_28 rfl ?_
      refine rj_aload_n 0 dX7_doPiecesMeet_29 rfl rfl ?_
      refine rj_iload_n 2 dX7_doPiecesMeet_30 rfl rfl ?_
      refine rj_cV (rest := [.int ((μ.1 10 a0.toNatClampNeg) - (μ.1 12 a0.toNatClampNeg))]) (sX7_endOf (g := g) (ω := ω) hω μ a1  ) gX7_doPiecesMeet_X7_endOf (rj_lt hω (k := 8) rfl) (rj_sh hω ly_8) rfl rfl hVX7_endOf ⟨Nat.le_of_ble_eq_true rfl, Nat.le_of_ble_eq_true rfl⟩ dX7_doPiecesMeet_31 rfl rfl rfl (Nat.le_of_ble_eq_true rfl) rfl (Nat.le_of_ble_eq_true rfl) rfl ?_
      refine rj_icmp_ge dX7_doPiecesMeet_34 rfl rfl (fun h3 => ?_) (fun h3 => ?_)
      · refine rj_iconst (v := 0) dX7_doPiecesMeet_62 rfl (by decide) ?_
        exact rj_zret dX7_doPiecesMeet_63 rfl rfl (Nat.le_of_ble_eq_true rfl) (Nat.le_of_ble_eq_true rfl) ⟨(by unfold fX7_doPiecesMeet; rw [if_neg h1]; rw [if_neg h2]; rw [if_pos h3]; try rfl), rfl, rfl⟩
      · refine rj_aload_n 0 dX7_doPiecesMeet_37 rfl rfl ?_
        refine rj_getR (C0 := RX7) (T := TX7) (N := 8) (j := 1) (r := 10) dX7_doPiecesMeet_38 rfl vX7_doPiecesMeet_7 rfl (rj_lt hω (k := 8) rfl) (rj_sh hω ly_8) (by decide) kX7_doPiecesMeet_15 rfl ?_
        refine rj_iload_n 2 dX7_doPiecesMeet_41 rfl rfl ?_
        refine rj_iald dX7_doPiecesMeet_42 rfl (rj_lt hω (k := 10) rfl) (rj_sh hω ly_10) (rj_hasin h2) ?_
        refine rj_aload_n 0 dX7_doPiecesMeet_43 rfl rfl ?_
        refine rj_getR (C0 := RX7) (T := TX7) (N := 8) (j := 3) (r := 12) dX7_doPiecesMeet_44 rfl vX7_doPiecesMeet_7 rfl (rj_lt hω (k := 8) rfl) (rj_sh hω ly_8) (by decide) kX7_doPiecesMeet_21 rfl ?_
        refine rj_iload_n 2 dX7_doPiecesMeet_47 rfl rfl ?_
        refine rj_iald dX7_doPiecesMeet_48 rfl (rj_lt hω (k := 12) rfl) (rj_sh hω ly_12) (rj_hasin h2) ?_
        refine rj_isub dX7_doPiecesMeet_49 rfl ?_
        refine rj_aload_n 0 dX7_doPiecesMeet_50 rfl rfl ?_
        refine rj_iload_n 1 dX7_doPiecesMeet_51 rfl rfl ?_
        refine rj_cV (rest := [.int ((μ.1 10 a1.toNatClampNeg) - (μ.1 12 a1.toNatClampNeg))]) (sX7_endOf (g := g) (ω := ω) hω μ a0  ) gX7_doPiecesMeet_X7_endOf (rj_lt hω (k := 8) rfl) (rj_sh hω ly_8) rfl rfl hVX7_endOf ⟨Nat.le_of_ble_eq_true rfl, Nat.le_of_ble_eq_true rfl⟩ dX7_doPiecesMeet_52 rfl rfl rfl (Nat.le_of_ble_eq_true rfl) rfl (Nat.le_of_ble_eq_true rfl) rfl ?_
        refine rj_icmp_ge dX7_doPiecesMeet_55 rfl rfl (fun h4 => ?_) (fun h4 => ?_)
        · refine rj_iconst (v := 0) dX7_doPiecesMeet_62 rfl (by decide) ?_
          exact rj_zret dX7_doPiecesMeet_63 rfl rfl (Nat.le_of_ble_eq_true rfl) (Nat.le_of_ble_eq_true rfl) ⟨(by unfold fX7_doPiecesMeet; rw [if_neg h1]; rw [if_neg h2]; rw [if_neg h3]; rw [if_pos h4]; try rfl), rfl, rfl⟩
        · refine rj_iconst (v := 1) dX7_doPiecesMeet_58 rfl (by decide) ?_
          refine rj_goto dX7_doPiecesMeet_59 rfl ?_
          exact rj_zret dX7_doPiecesMeet_63 rfl rfl (Nat.le_of_ble_eq_true rfl) (Nat.le_of_ble_eq_true rfl) ⟨(by unfold fX7_doPiecesMeet; rw [if_neg h1]; rw [if_neg h2]; rw [if_neg h3]; rw [if_neg h4]; try rfl), rfl, rfl⟩
theorem nX7_doPiecesMeet (μ : rj_M) (a0 : Int32) (a1 : Int32) : narrow .boolean (.int (fX7_doPiecesMeet μ a0 a1)) = .int (fX7_doPiecesMeet μ a0 a1) := by
  unfold fX7_doPiecesMeet
  (repeat (first | rfl | split))
theorem rj_meetin {μ : rj_M} {a b : Int32} (h : ¬ (fX7_doPiecesMeet μ a b) = 0) : vp_in a 16 ∧ vp_in b 16 := by
  unfold fX7_doPiecesMeet at h
  by_cases h1 : (fX7_has μ a) = 0
  · rw [if_pos h1] at h; exact absurd rfl h
  · rw [if_neg h1] at h
    by_cases h2 : (fX7_has μ b) = 0
    · rw [if_pos h2] at h; exact absurd rfl h
    · exact ⟨rj_hasin h1, rj_hasin h2⟩
theorem hSX7_areFoes : yX7_areFoes.cls ≠ "java/lang/invoke/MethodHandle" ∧ yX7_areFoes.cls ≠ "java/lang/invoke/VarHandle" ∧ (parseMethodDescriptor yX7_areFoes.desc).map (fun d => d.parameters.length) = some 2 := by decide +kernel
theorem hVX7_areFoes : yX7_areFoes.cls = RX7 ∧ yX7_areFoes.cls ≠ "java/lang/invoke/MethodHandle" ∧ yX7_areFoes.cls ≠ "java/lang/invoke/VarHandle" ∧ (parseMethodDescriptor yX7_areFoes.desc).map (fun d => d.parameters.length) = some 2 := by decide +kernel
theorem vX7_areFoes_7 : ∀ w ∈ u_ws RX7 TX7 8, w ∈ wsX7_areFoes := by decide +kernel
theorem kX7_areFoes_9 : Cond.fieldLink RX7 9 (TX7 0).1 (TX7 0).2.1 (TX7 0).2.2.1 ∈ wsX7_areFoes := by decide +kernel
theorem kX7_areFoes_24 : Cond.fieldLink RX7 24 (TX7 4).1 (TX7 4).2.1 (TX7 4).2.2.1 ∈ wsX7_areFoes := by decide +kernel
def fX7_areFoes (μ : rj_M) (a0 : Int32) (a1 : Int32) : Int32 := (if (fX7_doPiecesMeet μ a0 a1) = 0 then 0 else (if (μ.1 9 a0.toNatClampNeg) = (μ.1 9 a1.toNatClampNeg) then 1 else (if ((μ.1 13 a0.toNatClampNeg) &&& (μ.1 13 a1.toNatClampNeg)) = 0 then 0 else 1)))
set_option maxHeartbeats 4000000 in
set_option maxRecDepth 100000 in
theorem sX7_areFoes {g : rj_G} {ω : rj_W} (hω : rj_ok ω) (μ : rj_M) (a0 : Int32) (a1 : Int32)   : rj_Sp g yX7_areFoes wsX7_areFoes (rj_rm 3 0) [.ref (ω.2.2 8), .int a0, .int a1] ω μ (rj_D (.inl (some (.int (fX7_areFoes μ a0 a1)))) ω μ) := by
  refine rj_of' (cc := cX7_areFoes) (nL := 3) (ret := (some .boolean)) (own := RX7) (l0 := [(0, .ref (ω.2.2 8)), (1, .int a0), (2, .int a1)]) rfl (by decide +kernel) rfl (Nat.le_of_ble_eq_true rfl) rfl ?_
  refine rj_aload_n 0 dX7_areFoes_0 rfl rfl ?_
  refine rj_iload_n 1 dX7_areFoes_1 rfl rfl ?_
  refine rj_iload_n 2 dX7_areFoes_2 rfl rfl ?_
  refine rj_cV (rest := []) (sX7_doPiecesMeet (g := g) (ω := ω) hω μ a0 a1  ) gX7_areFoes_X7_doPiecesMeet (rj_lt hω (k := 8) rfl) (rj_sh hω ly_8) rfl rfl hVX7_doPiecesMeet ⟨Nat.le_of_ble_eq_true rfl, Nat.le_of_ble_eq_true rfl⟩ dX7_areFoes_3 rfl rfl rfl (Nat.le_of_ble_eq_true rfl) rfl (Nat.le_of_ble_eq_true rfl) rfl ?_
  refine rj_if_eq dX7_areFoes_6 rfl rfl (fun h1 => ?_) (fun h1 => ?_)
  · refine rj_iconst (v := 0) dX7_areFoes_44 rfl (by decide) ?_
    exact rj_zret dX7_areFoes_45 rfl rfl (Nat.le_of_ble_eq_true rfl) (Nat.le_of_ble_eq_true rfl) ⟨(by unfold fX7_areFoes; rw [if_pos h1]; try rfl), rfl, rfl⟩
  · refine rj_aload_n 0 dX7_areFoes_9 rfl rfl ?_
    refine rj_getR (C0 := RX7) (T := TX7) (N := 8) (j := 0) (r := 9) dX7_areFoes_10 rfl vX7_areFoes_7 rfl (rj_lt hω (k := 8) rfl) (rj_sh hω ly_8) (by decide) kX7_areFoes_9 rfl ?_
    refine rj_iload_n 1 dX7_areFoes_13 rfl rfl ?_
    refine rj_iald dX7_areFoes_14 rfl (rj_lt hω (k := 9) rfl) (rj_sh hω ly_9) (rj_meetin h1).1 ?_
    refine rj_aload_n 0 dX7_areFoes_15 rfl rfl ?_
    refine rj_getR (C0 := RX7) (T := TX7) (N := 8) (j := 0) (r := 9) dX7_areFoes_16 rfl vX7_areFoes_7 rfl (rj_lt hω (k := 8) rfl) (rj_sh hω ly_8) (by decide) kX7_areFoes_9 rfl ?_
    refine rj_iload_n 2 dX7_areFoes_19 rfl rfl ?_
    refine rj_iald dX7_areFoes_20 rfl (rj_lt hω (k := 9) rfl) (rj_sh hω ly_9) (rj_meetin h1).2 ?_
    refine rj_icmp_eq dX7_areFoes_21 rfl rfl (fun h2 => ?_) (fun h2 => ?_)
    · refine rj_iconst (v := 1) dX7_areFoes_40 rfl (by decide) ?_
      refine rj_goto dX7_areFoes_41 rfl ?_
      exact rj_zret dX7_areFoes_45 rfl rfl (Nat.le_of_ble_eq_true rfl) (Nat.le_of_ble_eq_true rfl) ⟨(by unfold fX7_areFoes; rw [if_neg h1]; rw [if_pos h2]; try rfl), rfl, rfl⟩
    · refine rj_aload_n 0 dX7_areFoes_24 rfl rfl ?_
      refine rj_getR (C0 := RX7) (T := TX7) (N := 8) (j := 4) (r := 13) dX7_areFoes_25 rfl vX7_areFoes_7 rfl (rj_lt hω (k := 8) rfl) (rj_sh hω ly_8) (by decide) kX7_areFoes_24 rfl ?_
      refine rj_iload_n 1 dX7_areFoes_28 rfl rfl ?_
      refine rj_iald dX7_areFoes_29 rfl (rj_lt hω (k := 13) rfl) (rj_sh hω ly_13) (rj_meetin h1).1 ?_
      refine rj_aload_n 0 dX7_areFoes_30 rfl rfl ?_
      refine rj_getR (C0 := RX7) (T := TX7) (N := 8) (j := 4) (r := 13) dX7_areFoes_31 rfl vX7_areFoes_7 rfl (rj_lt hω (k := 8) rfl) (rj_sh hω ly_8) (by decide) kX7_areFoes_24 rfl ?_
      refine rj_iload_n 2 dX7_areFoes_34 rfl rfl ?_
      refine rj_iald dX7_areFoes_35 rfl (rj_lt hω (k := 13) rfl) (rj_sh hω ly_13) (rj_meetin h1).2 ?_
      refine rj_iand dX7_areFoes_36 rfl ?_
      refine rj_if_eq dX7_areFoes_37 rfl rfl (fun h3 => ?_) (fun h3 => ?_)
      · refine rj_iconst (v := 0) dX7_areFoes_44 rfl (by decide) ?_
        exact rj_zret dX7_areFoes_45 rfl rfl (Nat.le_of_ble_eq_true rfl) (Nat.le_of_ble_eq_true rfl) ⟨(by unfold fX7_areFoes; rw [if_neg h1]; rw [if_neg h2]; rw [if_pos h3]; try rfl), rfl, rfl⟩
      · refine rj_iconst (v := 1) dX7_areFoes_40 rfl (by decide) ?_
        refine rj_goto dX7_areFoes_41 rfl ?_
        exact rj_zret dX7_areFoes_45 rfl rfl (Nat.le_of_ble_eq_true rfl) (Nat.le_of_ble_eq_true rfl) ⟨(by unfold fX7_areFoes; rw [if_neg h1]; rw [if_neg h2]; rw [if_neg h3]; try rfl), rfl, rfl⟩
theorem nX7_areFoes (μ : rj_M) (a0 : Int32) (a1 : Int32) : narrow .boolean (.int (fX7_areFoes μ a0 a1)) = .int (fX7_areFoes μ a0 a1) := by
  unfold fX7_areFoes
  (repeat (first | rfl | split))
theorem hSX7_countFoes : yX7_countFoes.cls ≠ "java/lang/invoke/MethodHandle" ∧ yX7_countFoes.cls ≠ "java/lang/invoke/VarHandle" ∧ (parseMethodDescriptor yX7_countFoes.desc).map (fun d => d.parameters.length) = some 0 := by decide +kernel
theorem hVX7_countFoes : yX7_countFoes.cls = RX7 ∧ yX7_countFoes.cls ≠ "java/lang/invoke/MethodHandle" ∧ yX7_countFoes.cls ≠ "java/lang/invoke/VarHandle" ∧ (parseMethodDescriptor yX7_countFoes.desc).map (fun d => d.parameters.length) = some 0 := by decide +kernel
def bX7_countFoes_14 (μ : rj_M) (j4 : Nat) (s4 : Int32) (j14 : Nat) (s14 : Int32) : Int32 := (if (fX7_areFoes μ (nI j4) (nI j14)) = 0 then s14 else (s14 + 1))
set_option maxHeartbeats 4000000 in
set_option maxRecDepth 100000 in
theorem lX7_countFoes_14 {g : rj_G} {ω : rj_W} (hω : rj_ok ω) (μ : rj_M) (j4 : Nat) (s4 : Int32)   (hl4 : j4 < 16)  {F : rj_F} : ∀ (r j : Nat) (s : Int32), j + r = 16 → (rj_R g RX7 cX7_countFoes 4 (some .int) wsX7_countFoes [] (rj_rm 4 0) F 0 ω μ [(0, .ref (ω.2.2 8)), (1, .int (rj_fo (bX7_countFoes_14 μ j4 s4) r j s)), (2, .int (nI j4)), (3, .int (nI 16))] 38 []) → rj_R g RX7 cX7_countFoes 4 (some .int) wsX7_countFoes [] (rj_rm 4 0) F 0 ω μ [(0, .ref (ω.2.2 8)), (1, .int s), (2, .int (nI j4)), (3, .int (nI j))] 14 [] := by
  intro r
  induction r with
  | zero =>
    intro j s hj K
    have e0 : j = 16 := by omega
    have hge : 16 ≤ nI j := by
      rw [e0]
      exact Int32.le_refl _
    refine rj_iload_n 3 dX7_countFoes_14 rfl rfl ?_
    refine rj_bipush (v := 16) dX7_countFoes_15 rfl (by decide) ?_
    refine rj_icmp_ge dX7_countFoes_17 rfl rfl (fun h4 => ?_) (fun h4 => ?_)
    · have e1 : nI j = nI 16 := by rw [e0]
      rw [e1]
      exact K
    · exact absurd hge h4
  | succ r ih =>
    intro j14 s14 hj K
    have hl14 : j14 < 16 := by omega
    have hg14 : ¬ 16 ≤ nI j14 := nI_ge hl14 (rj_bl rfl)
    refine rj_iload_n 3 dX7_countFoes_14 rfl rfl ?_
    refine rj_bipush (v := 16) dX7_countFoes_15 rfl (by decide) ?_
    refine rj_icmp_ge dX7_countFoes_17 rfl rfl (fun h2 => ?_) (fun h2 => ?_)
    · exact absurd h2 hg14
    · refine rj_aload_n 0 dX7_countFoes_20 rfl rfl ?_
      refine rj_iload_n 2 dX7_countFoes_21 rfl rfl ?_
      refine rj_iload_n 3 dX7_countFoes_22 rfl rfl ?_
      refine rj_cV (rest := []) (sX7_areFoes (g := g) (ω := ω) hω μ (nI j4) (nI j14)  ) gX7_countFoes_X7_areFoes (rj_lt hω (k := 8) rfl) (rj_sh hω ly_8) rfl rfl hVX7_areFoes ⟨Nat.le_of_ble_eq_true rfl, Nat.le_of_ble_eq_true rfl⟩ dX7_countFoes_23 rfl rfl rfl (Nat.le_of_ble_eq_true rfl) rfl (Nat.le_of_ble_eq_true rfl) rfl ?_
      refine rj_if_eq dX7_countFoes_26 rfl rfl (fun h3 => ?_) (fun h3 => ?_)
      · refine rj_iinc (v := nI (j14 + 1)) (l' := [(3, .int (nI (j14 + 1))), (0, .ref (ω.2.2 8)), (1, .int s14), (2, .int (nI j4))]) 3 dX7_countFoes_32 rfl rfl (nI_succ j14).symm (rj_bl rfl) rfl ?_
        refine rj_goto dX7_countFoes_35 rfl ?_
        have e : bX7_countFoes_14 μ j4 s4 j14 s14 = s14 := by unfold bX7_countFoes_14; rw [if_pos h3]; try rfl
        exact rj_sub (l' := [(0, .ref (ω.2.2 8)), (1, .int s14), (2, .int (nI j4)), (3, .int (nI (j14 + 1)))]) [1, 2, 3, 0] rfl (ih (j14 + 1) s14 (by omega) (by rw [rj_fo_s, e] at K; exact K))
      · refine rj_iinc (v := s14 + 1) (l' := [(1, .int (s14 + 1)), (0, .ref (ω.2.2 8)), (2, .int (nI j4)), (3, .int (nI j14))]) 1 dX7_countFoes_29 rfl rfl rfl (rj_bl rfl) rfl ?_
        refine rj_iinc (v := nI (j14 + 1)) (l' := [(3, .int (nI (j14 + 1))), (1, .int (s14 + 1)), (0, .ref (ω.2.2 8)), (2, .int (nI j4))]) 3 dX7_countFoes_32 rfl rfl (nI_succ j14).symm (rj_bl rfl) rfl ?_
        refine rj_goto dX7_countFoes_35 rfl ?_
        have e : bX7_countFoes_14 μ j4 s4 j14 s14 = (s14 + 1) := by unfold bX7_countFoes_14; rw [if_neg h3]; try rfl
        exact rj_sub (l' := [(0, .ref (ω.2.2 8)), (1, .int (s14 + 1)), (2, .int (nI j4)), (3, .int (nI (j14 + 1)))]) [2, 1, 3, 0] rfl (ih (j14 + 1) (s14 + 1) (by omega) (by rw [rj_fo_s, e] at K; exact K))
def bX7_countFoes_4 (μ : rj_M) (j4 : Nat) (s4 : Int32) : Int32 := (rj_fo (bX7_countFoes_14 μ j4 s4) (16 - (j4 + 1)) (j4 + 1) s4)
set_option maxHeartbeats 4000000 in
set_option maxRecDepth 100000 in
theorem lX7_countFoes_4 {g : rj_G} {ω : rj_W} (hω : rj_ok ω) (μ : rj_M)     {F : rj_F} : ∀ (r j : Nat) (s : Int32), j + r = 16 → (rj_R g RX7 cX7_countFoes 4 (some .int) wsX7_countFoes [] (rj_rm 4 0) F 0 ω μ [(0, .ref (ω.2.2 8)), (1, .int (rj_fo (bX7_countFoes_4 μ) r j s)), (2, .int (nI 16))] 44 []) → rj_R g RX7 cX7_countFoes 4 (some .int) wsX7_countFoes [] (rj_rm 4 0) F 0 ω μ [(0, .ref (ω.2.2 8)), (1, .int s), (2, .int (nI j))] 4 [] := by
  intro r
  induction r with
  | zero =>
    intro j s hj K
    have e0 : j = 16 := by omega
    have hge : 16 ≤ nI j := by
      rw [e0]
      exact Int32.le_refl _
    refine rj_iload_n 2 dX7_countFoes_4 rfl rfl ?_
    refine rj_bipush (v := 16) dX7_countFoes_5 rfl (by decide) ?_
    refine rj_icmp_ge dX7_countFoes_7 rfl rfl (fun h5 => ?_) (fun h5 => ?_)
    · have e1 : nI j = nI 16 := by rw [e0]
      rw [e1]
      exact K
    · exact absurd hge h5
  | succ r ih =>
    intro j4 s4 hj K
    have hl4 : j4 < 16 := by omega
    have hg4 : ¬ 16 ≤ nI j4 := nI_ge hl4 (rj_bl rfl)
    refine rj_iload_n 2 dX7_countFoes_4 rfl rfl ?_
    refine rj_bipush (v := 16) dX7_countFoes_5 rfl (by decide) ?_
    refine rj_icmp_ge dX7_countFoes_7 rfl rfl (fun h1 => ?_) (fun h1 => ?_)
    · exact absurd h1 hg4
    · refine rj_iload_n 2 dX7_countFoes_10 rfl rfl ?_
      refine rj_iconst (v := 1) dX7_countFoes_11 rfl (by decide) ?_
      refine rj_iadd dX7_countFoes_12 rfl ?_
      refine rj_istore_n (l' := [(3, .int ((nI j4) + 1)), (0, .ref (ω.2.2 8)), (1, .int s4), (2, .int (nI j4))]) dX7_countFoes_13 rfl (rj_bl rfl) rfl ?_
      rw [show (nI j4 + 1 : Int32) = nI (j4 + 1) from (nI_succ j4).symm]
      refine rj_sub (l' := [(0, .ref (ω.2.2 8)), (1, .int s4), (2, .int (nI j4)), (3, .int (nI (j4 + 1)))]) [1, 2, 3, 0] rfl ?_
      refine lX7_countFoes_14 hω μ j4 s4   hl4  (16 - (j4 + 1)) (j4 + 1) s4 (by omega) ?_
      refine rj_iinc (v := nI (j4 + 1)) (l' := [(2, .int (nI (j4 + 1))), (0, .ref (ω.2.2 8)), (1, .int (rj_fo (bX7_countFoes_14 μ j4 s4) (16 - (j4 + 1)) (j4 + 1) s4)), (3, .int (nI 16))]) 2 dX7_countFoes_38 rfl rfl (nI_succ j4).symm (rj_bl rfl) rfl ?_
      refine rj_goto dX7_countFoes_41 rfl ?_
      have e : bX7_countFoes_4 μ j4 s4 = (rj_fo (bX7_countFoes_14 μ j4 s4) (16 - (j4 + 1)) (j4 + 1) s4) := by unfold bX7_countFoes_4; rfl
      exact rj_sub (l' := [(0, .ref (ω.2.2 8)), (1, .int (rj_fo (bX7_countFoes_14 μ j4 s4) (16 - (j4 + 1)) (j4 + 1) s4)), (2, .int (nI (j4 + 1)))]) [1, 2, 0] rfl (ih (j4 + 1) (rj_fo (bX7_countFoes_14 μ j4 s4) (16 - (j4 + 1)) (j4 + 1) s4) (by omega) (by rw [rj_fo_s, e] at K; exact K))
def fX7_countFoes (μ : rj_M) : Int32 := (rj_fo (bX7_countFoes_4 μ) 16 0 0)
set_option maxHeartbeats 4000000 in
set_option maxRecDepth 100000 in
theorem sX7_countFoes {g : rj_G} {ω : rj_W} (hω : rj_ok ω) (μ : rj_M)   : rj_Sp g yX7_countFoes wsX7_countFoes (rj_rm 4 0) [.ref (ω.2.2 8)] ω μ (rj_D (.inl (some (.int (fX7_countFoes μ)))) ω μ) := by
  refine rj_of' (cc := cX7_countFoes) (nL := 4) (ret := (some .int)) (own := RX7) (l0 := [(0, .ref (ω.2.2 8))]) rfl (by decide +kernel) rfl (Nat.le_of_ble_eq_true rfl) rfl ?_
  refine rj_iconst (v := 0) dX7_countFoes_0 rfl (by decide) ?_
  refine rj_istore_n (l' := [(1, .int 0), (0, .ref (ω.2.2 8))]) dX7_countFoes_1 rfl (rj_bl rfl) rfl ?_
  refine rj_iconst (v := 0) dX7_countFoes_2 rfl (by decide) ?_
  refine rj_istore_n (l' := [(2, .int 0), (1, .int 0), (0, .ref (ω.2.2 8))]) dX7_countFoes_3 rfl (rj_bl rfl) rfl ?_
  refine rj_sub (l' := [(0, .ref (ω.2.2 8)), (1, .int 0), (2, .int (nI 0))]) [2, 1, 0] rfl ?_
  refine lX7_countFoes_4 hω μ     16 0 0 rfl ?_
  refine rj_iload_n 1 dX7_countFoes_44 rfl rfl ?_
  exact rj_iret dX7_countFoes_45 rfl (Nat.le_of_ble_eq_true rfl) (Nat.le_of_ble_eq_true rfl) ⟨(by unfold fX7_countFoes; rfl), rfl, rfl⟩
theorem hSX7_isOnIn : yX7_isOnIn.cls ≠ "java/lang/invoke/MethodHandle" ∧ yX7_isOnIn.cls ≠ "java/lang/invoke/VarHandle" ∧ (parseMethodDescriptor yX7_isOnIn.desc).map (fun d => d.parameters.length) = some 3 := by decide +kernel
theorem hVX7_isOnIn : yX7_isOnIn.cls = RX7 ∧ yX7_isOnIn.cls ≠ "java/lang/invoke/MethodHandle" ∧ yX7_isOnIn.cls ≠ "java/lang/invoke/VarHandle" ∧ (parseMethodDescriptor yX7_isOnIn.desc).map (fun d => d.parameters.length) = some 3 := by decide +kernel
theorem vX7_isOnIn_7 : ∀ w ∈ u_ws RX7 TX7 8, w ∈ wsX7_isOnIn := by decide +kernel
theorem kX7_isOnIn_15 : Cond.fieldLink RX7 15 (TX7 1).1 (TX7 1).2.1 (TX7 1).2.2.1 ∈ wsX7_isOnIn := by decide +kernel
def fX7_isOnIn (μ : rj_M) (a0 : Int32) (a1 : Int32) (a2 : Int32) : Int32 := (if (fX7_has μ a0) = 0 then 0 else (if a2 ≤ (μ.1 10 a0.toNatClampNeg) then 0 else (if (fX7_endOf μ a0) ≤ a1 then 0 else 1)))
set_option maxHeartbeats 4000000 in
set_option maxRecDepth 100000 in
theorem sX7_isOnIn {g : rj_G} {ω : rj_W} (hω : rj_ok ω) (μ : rj_M) (a0 : Int32) (a1 : Int32) (a2 : Int32)   : rj_Sp g yX7_isOnIn wsX7_isOnIn (rj_rm 2 0) [.ref (ω.2.2 8), .int a0, .int a1, .int a2] ω μ (rj_D (.inl (some (.int (fX7_isOnIn μ a0 a1 a2)))) ω μ) := by
  refine rj_of' (cc := cX7_isOnIn) (nL := 4) (ret := (some .boolean)) (own := RX7) (l0 := [(0, .ref (ω.2.2 8)), (1, .int a0), (2, .int a1), (3, .int a2)]) rfl (by decide +kernel) rfl (Nat.le_of_ble_eq_true rfl) rfl ?_
  refine rj_aload_n 0 dX7_isOnIn_0 rfl rfl ?_
  refine rj_iload_n 1 dX7_isOnIn_1 rfl rfl ?_
  refine rj_cV (rest := []) (sX7_has (g := g) (ω := ω) hω μ a0  ) gX7_isOnIn_X7_has (rj_lt hω (k := 8) rfl) (rj_sh hω ly_8) rfl rfl hVX7_has ⟨Nat.le_of_ble_eq_true rfl, Nat.le_of_ble_eq_true rfl⟩ dX7_isOnIn_2 rfl rfl rfl (Nat.le_of_ble_eq_true rfl) rfl (Nat.le_of_ble_eq_true rfl) rfl ?_
  refine rj_if_eq dX7_isOnIn_5 rfl rfl (fun h1 => ?_) (fun h1 => ?_)
  · refine rj_iconst (v := 0) dX7_isOnIn_31 rfl (by decide) ?_
    exact rj_zret dX7_isOnIn_32 rfl rfl (Nat.le_of_ble_eq_true rfl) (Nat.le_of_ble_eq_true rfl) ⟨(by unfold fX7_isOnIn; rw [if_pos h1]; try rfl), rfl, rfl⟩
  · refine rj_aload_n 0 dX7_isOnIn_8 rfl rfl ?_
    refine rj_getR (C0 := RX7) (T := TX7) (N := 8) (j := 1) (r := 10) dX7_isOnIn_9 rfl vX7_isOnIn_7 rfl (rj_lt hω (k := 8) rfl) (rj_sh hω ly_8) (by decide) kX7_isOnIn_15 rfl ?_
    refine rj_iload_n 1 dX7_isOnIn_12 rfl rfl ?_
    refine rj_iald dX7_isOnIn_13 rfl (rj_lt hω (k := 10) rfl) (rj_sh hω ly_10) (rj_hasin h1) ?_
    refine rj_iload_n 3 dX7_isOnIn_14 rfl rfl ?_
    refine rj_icmp_ge dX7_isOnIn_15 rfl rfl (fun h2 => ?_) (fun h2 => ?_)
    · refine rj_iconst (v := 0) dX7_isOnIn_31 rfl (by decide) ?_
      exact rj_zret dX7_isOnIn_32 rfl rfl (Nat.le_of_ble_eq_true rfl) (Nat.le_of_ble_eq_true rfl) ⟨(by unfold fX7_isOnIn; rw [if_neg h1]; rw [if_pos h2]; try rfl), rfl, rfl⟩
    · refine rj_aload_n 0 dX7_isOnIn_18 rfl rfl ?_
      refine rj_iload_n 1 dX7_isOnIn_19 rfl rfl ?_
      refine rj_cV (rest := []) (sX7_endOf (g := g) (ω := ω) hω μ a0  ) gX7_isOnIn_X7_endOf (rj_lt hω (k := 8) rfl) (rj_sh hω ly_8) rfl rfl hVX7_endOf ⟨Nat.le_of_ble_eq_true rfl, Nat.le_of_ble_eq_true rfl⟩ dX7_isOnIn_20 rfl rfl rfl (Nat.le_of_ble_eq_true rfl) rfl (Nat.le_of_ble_eq_true rfl) rfl ?_
      refine rj_iload_n 2 dX7_isOnIn_23 rfl rfl ?_
      refine rj_icmp_le dX7_isOnIn_24 rfl rfl (fun h3 => ?_) (fun h3 => ?_)
      · refine rj_iconst (v := 0) dX7_isOnIn_31 rfl (by decide) ?_
        exact rj_zret dX7_isOnIn_32 rfl rfl (Nat.le_of_ble_eq_true rfl) (Nat.le_of_ble_eq_true rfl) ⟨(by unfold fX7_isOnIn; rw [if_neg h1]; rw [if_neg h2]; rw [if_pos h3]; try rfl), rfl, rfl⟩
      · refine rj_iconst (v := 1) dX7_isOnIn_27 rfl (by decide) ?_
        refine rj_goto dX7_isOnIn_28 rfl ?_
        exact rj_zret dX7_isOnIn_32 rfl rfl (Nat.le_of_ble_eq_true rfl) (Nat.le_of_ble_eq_true rfl) ⟨(by unfold fX7_isOnIn; rw [if_neg h1]; rw [if_neg h2]; rw [if_neg h3]; try rfl), rfl, rfl⟩
theorem nX7_isOnIn (μ : rj_M) (a0 : Int32) (a1 : Int32) (a2 : Int32) : narrow .boolean (.int (fX7_isOnIn μ a0 a1 a2)) = .int (fX7_isOnIn μ a0 a1 a2) := by
  unfold fX7_isOnIn
  (repeat (first | rfl | split))
theorem hSX7_pleasingOfAll : yX7_pleasingOfAll.cls ≠ "java/lang/invoke/MethodHandle" ∧ yX7_pleasingOfAll.cls ≠ "java/lang/invoke/VarHandle" ∧ (parseMethodDescriptor yX7_pleasingOfAll.desc).map (fun d => d.parameters.length) = some 1 := by decide +kernel
theorem hVX7_pleasingOfAll : yX7_pleasingOfAll.cls = RX7 ∧ yX7_pleasingOfAll.cls ≠ "java/lang/invoke/MethodHandle" ∧ yX7_pleasingOfAll.cls ≠ "java/lang/invoke/VarHandle" ∧ (parseMethodDescriptor yX7_pleasingOfAll.desc).map (fun d => d.parameters.length) = some 1 := by decide +kernel
def bX7_pleasingOfAll_4 (μ : rj_M) (a0 : Int32) (j4 : Nat) (s4 : Int32) : Int32 := (if ((a0 >>> ((nI j4) &&& 31)) &&& 1) = 0 then s4 else (s4 + (fX7_pleasing μ (nI j4))))
set_option maxHeartbeats 4000000 in
set_option maxRecDepth 100000 in
theorem lX7_pleasingOfAll_4 {g : rj_G} {ω : rj_W} (hω : rj_ok ω) (μ : rj_M) (a0 : Int32)     {F : rj_F} : ∀ (r j : Nat) (s : Int32), j + r = 16 → (rj_R g RX7 cX7_pleasingOfAll 4 (some .int) wsX7_pleasingOfAll [] (rj_rm 3 0) F 0 ω μ [(0, .ref (ω.2.2 8)), (1, .int a0), (2, .int (rj_fo (bX7_pleasingOfAll_4 μ a0) r j s)), (3, .int (nI 16))] 32 []) → rj_R g RX7 cX7_pleasingOfAll 4 (some .int) wsX7_pleasingOfAll [] (rj_rm 3 0) F 0 ω μ [(0, .ref (ω.2.2 8)), (1, .int a0), (2, .int s), (3, .int (nI j))] 4 [] := by
  intro r
  induction r with
  | zero =>
    intro j s hj K
    have e0 : j = 16 := by omega
    have hge : 16 ≤ nI j := by
      rw [e0]
      exact Int32.le_refl _
    refine rj_iload_n 3 dX7_pleasingOfAll_4 rfl rfl ?_
    refine rj_bipush (v := 16) dX7_pleasingOfAll_5 rfl (by decide) ?_
    refine rj_icmp_ge dX7_pleasingOfAll_7 rfl rfl (fun h3 => ?_) (fun h3 => ?_)
    · have e1 : nI j = nI 16 := by rw [e0]
      rw [e1]
      exact K
    · exact absurd hge h3
  | succ r ih =>
    intro j4 s4 hj K
    have hl4 : j4 < 16 := by omega
    have hg4 : ¬ 16 ≤ nI j4 := nI_ge hl4 (rj_bl rfl)
    refine rj_iload_n 3 dX7_pleasingOfAll_4 rfl rfl ?_
    refine rj_bipush (v := 16) dX7_pleasingOfAll_5 rfl (by decide) ?_
    refine rj_icmp_ge dX7_pleasingOfAll_7 rfl rfl (fun h1 => ?_) (fun h1 => ?_)
    · exact absurd h1 hg4
    · refine rj_iload_n 1 dX7_pleasingOfAll_10 rfl rfl ?_
      refine rj_iload_n 3 dX7_pleasingOfAll_11 rfl rfl ?_
      refine rj_ishr dX7_pleasingOfAll_12 rfl ?_
      refine rj_iconst (v := 1) dX7_pleasingOfAll_13 rfl (by decide) ?_
      refine rj_iand dX7_pleasingOfAll_14 rfl ?_
      refine rj_if_eq dX7_pleasingOfAll_15 rfl rfl (fun h2 => ?_) (fun h2 => ?_)
      · refine rj_iinc (v := nI (j4 + 1)) (l' := [(3, .int (nI (j4 + 1))), (0, .ref (ω.2.2 8)), (1, .int a0), (2, .int s4)]) 3 dX7_pleasingOfAll_26 rfl rfl (nI_succ j4).symm (rj_bl rfl) rfl ?_
        refine rj_goto dX7_pleasingOfAll_29 rfl ?_
        have e : bX7_pleasingOfAll_4 μ a0 j4 s4 = s4 := by unfold bX7_pleasingOfAll_4; rw [if_pos h2]; try rfl
        exact rj_sub (l' := [(0, .ref (ω.2.2 8)), (1, .int a0), (2, .int s4), (3, .int (nI (j4 + 1)))]) [1, 2, 3, 0] rfl (ih (j4 + 1) s4 (by omega) (by rw [rj_fo_s, e] at K; exact K))
      · refine rj_iload_n 2 dX7_pleasingOfAll_18 rfl rfl ?_
        refine rj_aload_n 0 dX7_pleasingOfAll_19 rfl rfl ?_
        refine rj_iload_n 3 dX7_pleasingOfAll_20 rfl rfl ?_
        refine rj_cV (rest := [.int s4]) (sX7_pleasing (g := g) (ω := ω) hω μ (nI j4)  ) gX7_pleasingOfAll_X7_pleasing (rj_lt hω (k := 8) rfl) (rj_sh hω ly_8) rfl rfl hVX7_pleasing ⟨Nat.le_of_ble_eq_true rfl, Nat.le_of_ble_eq_true rfl⟩ dX7_pleasingOfAll_21 rfl rfl rfl (Nat.le_of_ble_eq_true rfl) rfl (Nat.le_of_ble_eq_true rfl) rfl ?_
        refine rj_iadd dX7_pleasingOfAll_24 rfl ?_
        refine rj_istore_n (l' := [(2, .int (s4 + (fX7_pleasing μ (nI j4)))), (0, .ref (ω.2.2 8)), (1, .int a0), (3, .int (nI j4))]) dX7_pleasingOfAll_25 rfl (rj_bl rfl) rfl ?_
        refine rj_iinc (v := nI (j4 + 1)) (l' := [(3, .int (nI (j4 + 1))), (2, .int (s4 + (fX7_pleasing μ (nI j4)))), (0, .ref (ω.2.2 8)), (1, .int a0)]) 3 dX7_pleasingOfAll_26 rfl rfl (nI_succ j4).symm (rj_bl rfl) rfl ?_
        refine rj_goto dX7_pleasingOfAll_29 rfl ?_
        have e : bX7_pleasingOfAll_4 μ a0 j4 s4 = (s4 + (fX7_pleasing μ (nI j4))) := by unfold bX7_pleasingOfAll_4; rw [if_neg h2]; try rfl
        exact rj_sub (l' := [(0, .ref (ω.2.2 8)), (1, .int a0), (2, .int (s4 + (fX7_pleasing μ (nI j4)))), (3, .int (nI (j4 + 1)))]) [2, 3, 1, 0] rfl (ih (j4 + 1) (s4 + (fX7_pleasing μ (nI j4))) (by omega) (by rw [rj_fo_s, e] at K; exact K))
def fX7_pleasingOfAll (μ : rj_M) (a0 : Int32) : Int32 := (rj_fo (bX7_pleasingOfAll_4 μ a0) 16 0 0)
set_option maxHeartbeats 4000000 in
set_option maxRecDepth 100000 in
theorem sX7_pleasingOfAll {g : rj_G} {ω : rj_W} (hω : rj_ok ω) (μ : rj_M) (a0 : Int32)   : rj_Sp g yX7_pleasingOfAll wsX7_pleasingOfAll (rj_rm 3 0) [.ref (ω.2.2 8), .int a0] ω μ (rj_D (.inl (some (.int (fX7_pleasingOfAll μ a0)))) ω μ) := by
  refine rj_of' (cc := cX7_pleasingOfAll) (nL := 4) (ret := (some .int)) (own := RX7) (l0 := [(0, .ref (ω.2.2 8)), (1, .int a0)]) rfl (by decide +kernel) rfl (Nat.le_of_ble_eq_true rfl) rfl ?_
  refine rj_iconst (v := 0) dX7_pleasingOfAll_0 rfl (by decide) ?_
  refine rj_istore_n (l' := [(2, .int 0), (0, .ref (ω.2.2 8)), (1, .int a0)]) dX7_pleasingOfAll_1 rfl (rj_bl rfl) rfl ?_
  refine rj_iconst (v := 0) dX7_pleasingOfAll_2 rfl (by decide) ?_
  refine rj_istore_n (l' := [(3, .int 0), (2, .int 0), (0, .ref (ω.2.2 8)), (1, .int a0)]) dX7_pleasingOfAll_3 rfl (rj_bl rfl) rfl ?_
  refine rj_sub (l' := [(0, .ref (ω.2.2 8)), (1, .int a0), (2, .int 0), (3, .int (nI 0))]) [2, 3, 1, 0] rfl ?_
  refine lX7_pleasingOfAll_4 hω μ a0     16 0 0 rfl ?_
  refine rj_iload_n 2 dX7_pleasingOfAll_32 rfl rfl ?_
  exact rj_iret dX7_pleasingOfAll_33 rfl (Nat.le_of_ble_eq_true rfl) (Nat.le_of_ble_eq_true rfl) ⟨(by unfold fX7_pleasingOfAll; rfl), rfl, rfl⟩
theorem hSX7_partOf : yX7_partOf.cls ≠ "java/lang/invoke/MethodHandle" ∧ yX7_partOf.cls ≠ "java/lang/invoke/VarHandle" ∧ (parseMethodDescriptor yX7_partOf.desc).map (fun d => d.parameters.length) = some 2 := by decide +kernel
theorem hVX7_partOf : yX7_partOf.cls = RX7 ∧ yX7_partOf.cls ≠ "java/lang/invoke/MethodHandle" ∧ yX7_partOf.cls ≠ "java/lang/invoke/VarHandle" ∧ (parseMethodDescriptor yX7_partOf.desc).map (fun d => d.parameters.length) = some 2 := by decide +kernel
theorem vX7_partOf_7 : ∀ w ∈ u_ws RX7 TX7 8, w ∈ wsX7_partOf := by decide +kernel
theorem kX7_partOf_9 : Cond.fieldLink RX7 9 (TX7 0).1 (TX7 0).2.1 (TX7 0).2.2.1 ∈ wsX7_partOf := by decide +kernel
theorem kX7_partOf_15 : Cond.fieldLink RX7 15 (TX7 1).1 (TX7 1).2.1 (TX7 1).2.2.1 ∈ wsX7_partOf := by decide +kernel
theorem kX7_partOf_18 : Cond.fieldLink RX7 18 (TX7 2).1 (TX7 2).2.1 (TX7 2).2.2.1 ∈ wsX7_partOf := by decide +kernel
theorem kX7_partOf_21 : Cond.fieldLink RX7 21 (TX7 3).1 (TX7 3).2.1 (TX7 3).2.2.1 ∈ wsX7_partOf := by decide +kernel
theorem kX7_partOf_24 : Cond.fieldLink RX7 24 (TX7 4).1 (TX7 4).2.1 (TX7 4).2.2.1 ∈ wsX7_partOf := by decide +kernel
def fX7_partOf (μ : rj_M) (a0 : Int32) (a1 : Int32) : Int32 := (if (fX7_has μ a0) = 0 then (-1) else (if a1 = 0 then (μ.1 9 a0.toNatClampNeg) else (if a1 = 1 then (μ.1 10 a0.toNatClampNeg) else (if a1 = 2 then (μ.1 11 a0.toNatClampNeg) else (if a1 = 3 then (μ.1 12 a0.toNatClampNeg) else (if a1 = 4 then (μ.1 13 a0.toNatClampNeg) else (fX7_pleasing μ a0)))))))
set_option maxHeartbeats 4000000 in
set_option maxRecDepth 100000 in
theorem sX7_partOf {g : rj_G} {ω : rj_W} (hω : rj_ok ω) (μ : rj_M) (a0 : Int32) (a1 : Int32)   : rj_Sp g yX7_partOf wsX7_partOf (rj_rm 3 0) [.ref (ω.2.2 8), .int a0, .int a1] ω μ (rj_D (.inl (some (.int (fX7_partOf μ a0 a1)))) ω μ) := by
  refine rj_of' (cc := cX7_partOf) (nL := 3) (ret := (some .int)) (own := RX7) (l0 := [(0, .ref (ω.2.2 8)), (1, .int a0), (2, .int a1)]) rfl (by decide +kernel) rfl (Nat.le_of_ble_eq_true rfl) rfl ?_
  refine rj_aload_n 0 dX7_partOf_0 rfl rfl ?_
  refine rj_iload_n 1 dX7_partOf_1 rfl rfl ?_
  refine rj_cV (rest := []) (sX7_has (g := g) (ω := ω) hω μ a0  ) gX7_partOf_X7_has (rj_lt hω (k := 8) rfl) (rj_sh hω ly_8) rfl rfl hVX7_has ⟨Nat.le_of_ble_eq_true rfl, Nat.le_of_ble_eq_true rfl⟩ dX7_partOf_2 rfl rfl rfl (Nat.le_of_ble_eq_true rfl) rfl (Nat.le_of_ble_eq_true rfl) rfl ?_
  refine rj_if_ne dX7_partOf_5 rfl rfl (fun h1 => ?_) (fun h1 => ?_)
  · refine rj_iload_n 2 dX7_partOf_10 rfl rfl ?_
    by_cases h2 : a1 = 0
    · refine rj_tableIn dX7_partOf_11 (by rw [h2]; decide) (by rw [h2]; decide) (off := 33) (by rw [h2]; rfl) rfl ?_
      refine rj_aload_n 0 dX7_partOf_44 rfl rfl ?_
      refine rj_getR (C0 := RX7) (T := TX7) (N := 8) (j := 0) (r := 9) dX7_partOf_45 rfl vX7_partOf_7 rfl (rj_lt hω (k := 8) rfl) (rj_sh hω ly_8) (by decide) kX7_partOf_9 rfl ?_
      refine rj_iload_n 1 dX7_partOf_48 rfl rfl ?_
      refine rj_iald dX7_partOf_49 rfl (rj_lt hω (k := 9) rfl) (rj_sh hω ly_9) (rj_hasin h1) ?_
      exact rj_iret dX7_partOf_50 rfl (Nat.le_of_ble_eq_true rfl) (Nat.le_of_ble_eq_true rfl) ⟨(by unfold fX7_partOf; rw [if_neg h1]; rw [if_pos h2]; try rfl), rfl, rfl⟩
    · skip
      by_cases h3 : a1 = 1
      · refine rj_tableIn dX7_partOf_11 (by rw [h3]; decide) (by rw [h3]; decide) (off := 40) (by rw [h3]; rfl) rfl ?_
        refine rj_aload_n 0 dX7_partOf_51 rfl rfl ?_
        refine rj_getR (C0 := RX7) (T := TX7) (N := 8) (j := 1) (r := 10) dX7_partOf_52 rfl vX7_partOf_7 rfl (rj_lt hω (k := 8) rfl) (rj_sh hω ly_8) (by decide) kX7_partOf_15 rfl ?_
        refine rj_iload_n 1 dX7_partOf_55 rfl rfl ?_
        refine rj_iald dX7_partOf_56 rfl (rj_lt hω (k := 10) rfl) (rj_sh hω ly_10) (rj_hasin h1) ?_
        exact rj_iret dX7_partOf_57 rfl (Nat.le_of_ble_eq_true rfl) (Nat.le_of_ble_eq_true rfl) ⟨(by unfold fX7_partOf; rw [if_neg h1]; rw [if_neg h2]; rw [if_pos h3]; try rfl), rfl, rfl⟩
      · skip
        by_cases h4 : a1 = 2
        · refine rj_tableIn dX7_partOf_11 (by rw [h4]; decide) (by rw [h4]; decide) (off := 47) (by rw [h4]; rfl) rfl ?_
          refine rj_aload_n 0 dX7_partOf_58 rfl rfl ?_
          refine rj_getR (C0 := RX7) (T := TX7) (N := 8) (j := 2) (r := 11) dX7_partOf_59 rfl vX7_partOf_7 rfl (rj_lt hω (k := 8) rfl) (rj_sh hω ly_8) (by decide) kX7_partOf_18 rfl ?_
          refine rj_iload_n 1 dX7_partOf_62 rfl rfl ?_
          refine rj_iald dX7_partOf_63 rfl (rj_lt hω (k := 11) rfl) (rj_sh hω ly_11) (rj_hasin h1) ?_
          exact rj_iret dX7_partOf_64 rfl (Nat.le_of_ble_eq_true rfl) (Nat.le_of_ble_eq_true rfl) ⟨(by unfold fX7_partOf; rw [if_neg h1]; rw [if_neg h2]; rw [if_neg h3]; rw [if_pos h4]; try rfl), rfl, rfl⟩
        · skip
          by_cases h5 : a1 = 3
          · refine rj_tableIn dX7_partOf_11 (by rw [h5]; decide) (by rw [h5]; decide) (off := 54) (by rw [h5]; rfl) rfl ?_
            refine rj_aload_n 0 dX7_partOf_65 rfl rfl ?_
            refine rj_getR (C0 := RX7) (T := TX7) (N := 8) (j := 3) (r := 12) dX7_partOf_66 rfl vX7_partOf_7 rfl (rj_lt hω (k := 8) rfl) (rj_sh hω ly_8) (by decide) kX7_partOf_21 rfl ?_
            refine rj_iload_n 1 dX7_partOf_69 rfl rfl ?_
            refine rj_iald dX7_partOf_70 rfl (rj_lt hω (k := 12) rfl) (rj_sh hω ly_12) (rj_hasin h1) ?_
            exact rj_iret dX7_partOf_71 rfl (Nat.le_of_ble_eq_true rfl) (Nat.le_of_ble_eq_true rfl) ⟨(by unfold fX7_partOf; rw [if_neg h1]; rw [if_neg h2]; rw [if_neg h3]; rw [if_neg h4]; rw [if_pos h5]; try rfl), rfl, rfl⟩
          · skip
            by_cases h6 : a1 = 4
            · refine rj_tableIn dX7_partOf_11 (by rw [h6]; decide) (by rw [h6]; decide) (off := 61) (by rw [h6]; rfl) rfl ?_
              refine rj_aload_n 0 dX7_partOf_72 rfl rfl ?_
              refine rj_getR (C0 := RX7) (T := TX7) (N := 8) (j := 4) (r := 13) dX7_partOf_73 rfl vX7_partOf_7 rfl (rj_lt hω (k := 8) rfl) (rj_sh hω ly_8) (by decide) kX7_partOf_24 rfl ?_
              refine rj_iload_n 1 dX7_partOf_76 rfl rfl ?_
              refine rj_iald dX7_partOf_77 rfl (rj_lt hω (k := 13) rfl) (rj_sh hω ly_13) (rj_hasin h1) ?_
              exact rj_iret dX7_partOf_78 rfl (Nat.le_of_ble_eq_true rfl) (Nat.le_of_ble_eq_true rfl) ⟨(by unfold fX7_partOf; rw [if_neg h1]; rw [if_neg h2]; rw [if_neg h3]; rw [if_neg h4]; rw [if_neg h5]; rw [if_pos h6]; try rfl), rfl, rfl⟩
            · skip
              refine rj_tableOut dX7_partOf_11 (by have b0 : a1.toInt ≠ 0 := fun z => h2 (Int32.toInt_inj.mp (z.trans rfl)); have b1 : a1.toInt ≠ 1 := fun z => h3 (Int32.toInt_inj.mp (z.trans rfl)); have b2 : a1.toInt ≠ 2 := fun z => h4 (Int32.toInt_inj.mp (z.trans rfl)); have b3 : a1.toInt ≠ 3 := fun z => h5 (Int32.toInt_inj.mp (z.trans rfl)); have b4 : a1.toInt ≠ 4 := fun z => h6 (Int32.toInt_inj.mp (z.trans rfl)); omega) rfl ?_
              refine rj_aload_n 0 dX7_partOf_79 rfl rfl ?_
              refine rj_iload_n 1 dX7_partOf_80 rfl rfl ?_
              refine rj_cV (rest := []) (sX7_pleasing (g := g) (ω := ω) hω μ a0  ) gX7_partOf_X7_pleasing (rj_lt hω (k := 8) rfl) (rj_sh hω ly_8) rfl rfl hVX7_pleasing ⟨Nat.le_of_ble_eq_true rfl, Nat.le_of_ble_eq_true rfl⟩ dX7_partOf_81 rfl rfl rfl (Nat.le_of_ble_eq_true rfl) rfl (Nat.le_of_ble_eq_true rfl) rfl ?_
              exact rj_iret dX7_partOf_84 rfl (Nat.le_of_ble_eq_true rfl) (Nat.le_of_ble_eq_true rfl) ⟨(by unfold fX7_partOf; rw [if_neg h1]; rw [if_neg h2]; rw [if_neg h3]; rw [if_neg h4]; rw [if_neg h5]; rw [if_neg h6]; try rfl), rfl, rfl⟩
  · refine rj_iconst (v := (-1)) dX7_partOf_8 rfl (by decide) ?_
    exact rj_iret dX7_partOf_9 rfl (Nat.le_of_ble_eq_true rfl) (Nat.le_of_ble_eq_true rfl) ⟨(by unfold fX7_partOf; rw [if_pos h1]; try rfl), rfl, rfl⟩
theorem hSX7_earliest : yX7_earliest.cls ≠ "java/lang/invoke/MethodHandle" ∧ yX7_earliest.cls ≠ "java/lang/invoke/VarHandle" ∧ (parseMethodDescriptor yX7_earliest.desc).map (fun d => d.parameters.length) = some 3 := by decide +kernel
theorem hVX7_earliest : yX7_earliest.cls = RX7 ∧ yX7_earliest.cls ≠ "java/lang/invoke/MethodHandle" ∧ yX7_earliest.cls ≠ "java/lang/invoke/VarHandle" ∧ (parseMethodDescriptor yX7_earliest.desc).map (fun d => d.parameters.length) = some 3 := by decide +kernel
theorem vX7_earliest_7 : ∀ w ∈ u_ws RX7 TX7 8, w ∈ wsX7_earliest := by decide +kernel
theorem kX7_earliest_15 : Cond.fieldLink RX7 15 (TX7 1).1 (TX7 1).2.1 (TX7 1).2.2.1 ∈ wsX7_earliest := by decide +kernel
def bX7_earliest_6 (μ : rj_M) (a0 : Int32) (a1 : Int32) (a2 : Int32) (j6 : Nat) (s6 : Int32) : Int32 := (if (fX7_stageOf μ (nI j6)) = a0 then (if (μ.1 10 (nI j6).toNatClampNeg) < a1 then s6 else (if a2 ≤ (μ.1 10 (nI j6).toNatClampNeg) then s6 else (if s6 = (-1) then (nI j6) else (if (fX7_beginOf μ s6) ≤ (μ.1 10 (nI j6).toNatClampNeg) then s6 else (nI j6))))) else s6)
set_option maxHeartbeats 4000000 in
set_option maxRecDepth 100000 in
theorem lX7_earliest_6 {g : rj_G} {ω : rj_W} (hω : rj_ok ω) (μ : rj_M) (a0 : Int32) (a1 : Int32) (a2 : Int32)     {F : rj_F} : ∀ (r j : Nat) (s : Int32), j + r = 16 → (rj_R g RX7 cX7_earliest 6 (some .int) wsX7_earliest [] (rj_rm 2 0) F 0 ω μ [(0, .ref (ω.2.2 8)), (1, .int a0), (2, .int a1), (3, .int a2), (4, .int (rj_fo (bX7_earliest_6 μ a0 a1 a2) r j s)), (5, .int (nI 16))] 77 []) → rj_R g RX7 cX7_earliest 6 (some .int) wsX7_earliest [] (rj_rm 2 0) F 0 ω μ [(0, .ref (ω.2.2 8)), (1, .int a0), (2, .int a1), (3, .int a2), (4, .int s), (5, .int (nI j))] 6 [] := by
  intro r
  induction r with
  | zero =>
    intro j s hj K
    have e0 : j = 16 := by omega
    have hge : 16 ≤ nI j := by
      rw [e0]
      exact Int32.le_refl _
    refine rj_iload 5 dX7_earliest_6 rfl rfl ?_
    refine rj_bipush (v := 16) dX7_earliest_8 rfl (by decide) ?_
    refine rj_icmp_ge dX7_earliest_10 rfl rfl (fun h7 => ?_) (fun h7 => ?_)
    · have e1 : nI j = nI 16 := by rw [e0]
      rw [e1]
      exact K
    · exact absurd hge h7
  | succ r ih =>
    intro j6 s6 hj K
    have hl6 : j6 < 16 := by omega
    have hg6 : ¬ 16 ≤ nI j6 := nI_ge hl6 (rj_bl rfl)
    refine rj_iload 5 dX7_earliest_6 rfl rfl ?_
    refine rj_bipush (v := 16) dX7_earliest_8 rfl (by decide) ?_
    refine rj_icmp_ge dX7_earliest_10 rfl rfl (fun h1 => ?_) (fun h1 => ?_)
    · exact absurd h1 hg6
    · refine rj_aload_n 0 dX7_earliest_13 rfl rfl ?_
      refine rj_iload 5 dX7_earliest_14 rfl rfl ?_
      refine rj_cV (rest := []) (sX7_stageOf (g := g) (ω := ω) hω μ (nI j6)  ) gX7_earliest_X7_stageOf (rj_lt hω (k := 8) rfl) (rj_sh hω ly_8) rfl rfl hVX7_stageOf ⟨Nat.le_of_ble_eq_true rfl, Nat.le_of_ble_eq_true rfl⟩ dX7_earliest_16 rfl rfl rfl (Nat.le_of_ble_eq_true rfl) rfl (Nat.le_of_ble_eq_true rfl) rfl ?_
      refine rj_iload_n 1 dX7_earliest_19 rfl rfl ?_
      refine rj_icmp_ne dX7_earliest_20 rfl rfl (fun h2 => ?_) (fun h2 => ?_)
      · refine rj_iinc (v := nI (j6 + 1)) (l' := [(5, .int (nI (j6 + 1))), (0, .ref (ω.2.2 8)), (1, .int a0), (2, .int a1), (3, .int a2), (4, .int s6)]) 5 dX7_earliest_71 rfl rfl (nI_succ j6).symm (rj_bl rfl) rfl ?_
        refine rj_goto dX7_earliest_74 rfl ?_
        have e : bX7_earliest_6 μ a0 a1 a2 j6 s6 = s6 := by unfold bX7_earliest_6; rw [if_neg h2]; try rfl
        exact rj_sub (l' := [(0, .ref (ω.2.2 8)), (1, .int a0), (2, .int a1), (3, .int a2), (4, .int s6), (5, .int (nI (j6 + 1)))]) [1, 2, 3, 4, 5, 0] rfl (ih (j6 + 1) s6 (by omega) (by rw [rj_fo_s, e] at K; exact K))
      · refine rj_aload_n 0 dX7_earliest_23 rfl rfl ?_
        refine rj_getR (C0 := RX7) (T := TX7) (N := 8) (j := 1) (r := 10) dX7_earliest_24 rfl vX7_earliest_7 rfl (rj_lt hω (k := 8) rfl) (rj_sh hω ly_8) (by decide) kX7_earliest_15 rfl ?_
        refine rj_iload 5 dX7_earliest_27 rfl rfl ?_
        refine rj_iald dX7_earliest_29 rfl (rj_lt hω (k := 10) rfl) (rj_sh hω ly_10) (vp_in_nI hl6 (rj_bl rfl)) ?_
        refine rj_iload_n 2 dX7_earliest_30 rfl rfl ?_
        refine rj_icmp_lt dX7_earliest_31 rfl rfl (fun h3 => ?_) (fun h3 => ?_)
        · refine rj_iinc (v := nI (j6 + 1)) (l' := [(5, .int (nI (j6 + 1))), (0, .ref (ω.2.2 8)), (1, .int a0), (2, .int a1), (3, .int a2), (4, .int s6)]) 5 dX7_earliest_71 rfl rfl (nI_succ j6).symm (rj_bl rfl) rfl ?_
          refine rj_goto dX7_earliest_74 rfl ?_
          have e : bX7_earliest_6 μ a0 a1 a2 j6 s6 = s6 := by unfold bX7_earliest_6; rw [if_pos h2]; rw [if_pos h3]; try rfl
          exact rj_sub (l' := [(0, .ref (ω.2.2 8)), (1, .int a0), (2, .int a1), (3, .int a2), (4, .int s6), (5, .int (nI (j6 + 1)))]) [1, 2, 3, 4, 5, 0] rfl (ih (j6 + 1) s6 (by omega) (by rw [rj_fo_s, e] at K; exact K))
        · refine rj_aload_n 0 dX7_earliest_34 rfl rfl ?_
          refine rj_getR (C0 := RX7) (T := TX7) (N := 8) (j := 1) (r := 10) dX7_earliest_35 rfl vX7_earliest_7 rfl (rj_lt hω (k := 8) rfl) (rj_sh hω ly_8) (by decide) kX7_earliest_15 rfl ?_
          refine rj_iload 5 dX7_earliest_38 rfl rfl ?_
          refine rj_iald dX7_earliest_40 rfl (rj_lt hω (k := 10) rfl) (rj_sh hω ly_10) (vp_in_nI hl6 (rj_bl rfl)) ?_
          refine rj_iload_n 3 dX7_earliest_41 rfl rfl ?_
          refine rj_icmp_ge dX7_earliest_42 rfl rfl (fun h4 => ?_) (fun h4 => ?_)
          · refine rj_iinc (v := nI (j6 + 1)) (l' := [(5, .int (nI (j6 + 1))), (0, .ref (ω.2.2 8)), (1, .int a0), (2, .int a1), (3, .int a2), (4, .int s6)]) 5 dX7_earliest_71 rfl rfl (nI_succ j6).symm (rj_bl rfl) rfl ?_
            refine rj_goto dX7_earliest_74 rfl ?_
            have e : bX7_earliest_6 μ a0 a1 a2 j6 s6 = s6 := by unfold bX7_earliest_6; rw [if_pos h2]; rw [if_neg h3]; rw [if_pos h4]; try rfl
            exact rj_sub (l' := [(0, .ref (ω.2.2 8)), (1, .int a0), (2, .int a1), (3, .int a2), (4, .int s6), (5, .int (nI (j6 + 1)))]) [1, 2, 3, 4, 5, 0] rfl (ih (j6 + 1) s6 (by omega) (by rw [rj_fo_s, e] at K; exact K))
          · refine rj_iload 4 dX7_earliest_45 rfl rfl ?_
            refine rj_iconst (v := (-1)) dX7_earliest_47 rfl (by decide) ?_
            refine rj_icmp_eq dX7_earliest_48 rfl rfl (fun h5 => ?_) (fun h5 => ?_)
            · refine rj_iload 5 dX7_earliest_67 rfl rfl ?_
              refine rj_istore (l' := [(4, .int (nI j6)), (0, .ref (ω.2.2 8)), (1, .int a0), (2, .int a1), (3, .int a2), (5, .int (nI j6))]) dX7_earliest_69 rfl (rj_bl rfl) rfl ?_
              refine rj_iinc (v := nI (j6 + 1)) (l' := [(5, .int (nI (j6 + 1))), (4, .int (nI j6)), (0, .ref (ω.2.2 8)), (1, .int a0), (2, .int a1), (3, .int a2)]) 5 dX7_earliest_71 rfl rfl (nI_succ j6).symm (rj_bl rfl) rfl ?_
              refine rj_goto dX7_earliest_74 rfl ?_
              have e : bX7_earliest_6 μ a0 a1 a2 j6 s6 = (nI j6) := by unfold bX7_earliest_6; rw [if_pos h2]; rw [if_neg h3]; rw [if_neg h4]; rw [if_pos h5]; try rfl
              exact rj_sub (l' := [(0, .ref (ω.2.2 8)), (1, .int a0), (2, .int a1), (3, .int a2), (4, .int (nI j6)), (5, .int (nI (j6 + 1)))]) [2, 3, 4, 5, 1, 0] rfl (ih (j6 + 1) (nI j6) (by omega) (by rw [rj_fo_s, e] at K; exact K))
            · refine rj_aload_n 0 dX7_earliest_51 rfl rfl ?_
              refine rj_getR (C0 := RX7) (T := TX7) (N := 8) (j := 1) (r := 10) dX7_earliest_52 rfl vX7_earliest_7 rfl (rj_lt hω (k := 8) rfl) (rj_sh hω ly_8) (by decide) kX7_earliest_15 rfl ?_
              refine rj_iload 5 dX7_earliest_55 rfl rfl ?_
              refine rj_iald dX7_earliest_57 rfl (rj_lt hω (k := 10) rfl) (rj_sh hω ly_10) (vp_in_nI hl6 (rj_bl rfl)) ?_
              refine rj_aload_n 0 dX7_earliest_58 rfl rfl ?_
              refine rj_iload 4 dX7_earliest_59 rfl rfl ?_
              refine rj_cV (rest := [.int (μ.1 10 (nI j6).toNatClampNeg)]) (sX7_beginOf (g := g) (ω := ω) hω μ s6  ) gX7_earliest_X7_beginOf (rj_lt hω (k := 8) rfl) (rj_sh hω ly_8) rfl rfl hVX7_beginOf ⟨Nat.le_of_ble_eq_true rfl, Nat.le_of_ble_eq_true rfl⟩ dX7_earliest_61 rfl rfl rfl (Nat.le_of_ble_eq_true rfl) rfl (Nat.le_of_ble_eq_true rfl) rfl ?_
              refine rj_icmp_ge dX7_earliest_64 rfl rfl (fun h6 => ?_) (fun h6 => ?_)
              · refine rj_iinc (v := nI (j6 + 1)) (l' := [(5, .int (nI (j6 + 1))), (0, .ref (ω.2.2 8)), (1, .int a0), (2, .int a1), (3, .int a2), (4, .int s6)]) 5 dX7_earliest_71 rfl rfl (nI_succ j6).symm (rj_bl rfl) rfl ?_
                refine rj_goto dX7_earliest_74 rfl ?_
                have e : bX7_earliest_6 μ a0 a1 a2 j6 s6 = s6 := by unfold bX7_earliest_6; rw [if_pos h2]; rw [if_neg h3]; rw [if_neg h4]; rw [if_neg h5]; rw [if_pos h6]; try rfl
                exact rj_sub (l' := [(0, .ref (ω.2.2 8)), (1, .int a0), (2, .int a1), (3, .int a2), (4, .int s6), (5, .int (nI (j6 + 1)))]) [1, 2, 3, 4, 5, 0] rfl (ih (j6 + 1) s6 (by omega) (by rw [rj_fo_s, e] at K; exact K))
              · refine rj_iload 5 dX7_earliest_67 rfl rfl ?_
                refine rj_istore (l' := [(4, .int (nI j6)), (0, .ref (ω.2.2 8)), (1, .int a0), (2, .int a1), (3, .int a2), (5, .int (nI j6))]) dX7_earliest_69 rfl (rj_bl rfl) rfl ?_
                refine rj_iinc (v := nI (j6 + 1)) (l' := [(5, .int (nI (j6 + 1))), (4, .int (nI j6)), (0, .ref (ω.2.2 8)), (1, .int a0), (2, .int a1), (3, .int a2)]) 5 dX7_earliest_71 rfl rfl (nI_succ j6).symm (rj_bl rfl) rfl ?_
                refine rj_goto dX7_earliest_74 rfl ?_
                have e : bX7_earliest_6 μ a0 a1 a2 j6 s6 = (nI j6) := by unfold bX7_earliest_6; rw [if_pos h2]; rw [if_neg h3]; rw [if_neg h4]; rw [if_neg h5]; rw [if_neg h6]; try rfl
                exact rj_sub (l' := [(0, .ref (ω.2.2 8)), (1, .int a0), (2, .int a1), (3, .int a2), (4, .int (nI j6)), (5, .int (nI (j6 + 1)))]) [2, 3, 4, 5, 1, 0] rfl (ih (j6 + 1) (nI j6) (by omega) (by rw [rj_fo_s, e] at K; exact K))
def fX7_earliest (μ : rj_M) (a0 : Int32) (a1 : Int32) (a2 : Int32) : Int32 := (rj_fo (bX7_earliest_6 μ a0 a1 a2) 16 0 (-1))
set_option maxHeartbeats 4000000 in
set_option maxRecDepth 100000 in
theorem sX7_earliest {g : rj_G} {ω : rj_W} (hω : rj_ok ω) (μ : rj_M) (a0 : Int32) (a1 : Int32) (a2 : Int32)   : rj_Sp g yX7_earliest wsX7_earliest (rj_rm 2 0) [.ref (ω.2.2 8), .int a0, .int a1, .int a2] ω μ (rj_D (.inl (some (.int (fX7_earliest μ a0 a1 a2)))) ω μ) := by
  refine rj_of' (cc := cX7_earliest) (nL := 6) (ret := (some .int)) (own := RX7) (l0 := [(0, .ref (ω.2.2 8)), (1, .int a0), (2, .int a1), (3, .int a2)]) rfl (by decide +kernel) rfl (Nat.le_of_ble_eq_true rfl) rfl ?_
  refine rj_iconst (v := (-1)) dX7_earliest_0 rfl (by decide) ?_
  refine rj_istore (l' := [(4, .int (-1)), (0, .ref (ω.2.2 8)), (1, .int a0), (2, .int a1), (3, .int a2)]) dX7_earliest_1 rfl (rj_bl rfl) rfl ?_
  refine rj_iconst (v := 0) dX7_earliest_3 rfl (by decide) ?_
  refine rj_istore (l' := [(5, .int 0), (4, .int (-1)), (0, .ref (ω.2.2 8)), (1, .int a0), (2, .int a1), (3, .int a2)]) dX7_earliest_4 rfl (rj_bl rfl) rfl ?_
  refine rj_sub (l' := [(0, .ref (ω.2.2 8)), (1, .int a0), (2, .int a1), (3, .int a2), (4, .int (-1)), (5, .int (nI 0))]) [2, 3, 4, 5, 1, 0] rfl ?_
  refine lX7_earliest_6 hω μ a0 a1 a2     16 0 (-1) rfl ?_
  refine rj_iload 4 dX7_earliest_77 rfl rfl ?_
  exact rj_iret dX7_earliest_79 rfl (Nat.le_of_ble_eq_true rfl) (Nat.le_of_ble_eq_true rfl) ⟨(by unfold fX7_earliest; rfl), rfl, rfl⟩
theorem hSX7_latestOutside : yX7_latestOutside.cls ≠ "java/lang/invoke/MethodHandle" ∧ yX7_latestOutside.cls ≠ "java/lang/invoke/VarHandle" ∧ (parseMethodDescriptor yX7_latestOutside.desc).map (fun d => d.parameters.length) = some 1 := by decide +kernel
theorem hVX7_latestOutside : yX7_latestOutside.cls = RX7 ∧ yX7_latestOutside.cls ≠ "java/lang/invoke/MethodHandle" ∧ yX7_latestOutside.cls ≠ "java/lang/invoke/VarHandle" ∧ (parseMethodDescriptor yX7_latestOutside.desc).map (fun d => d.parameters.length) = some 1 := by decide +kernel
theorem vX7_latestOutside_7 : ∀ w ∈ u_ws RX7 TX7 8, w ∈ wsX7_latestOutside := by decide +kernel
theorem kX7_latestOutside_15 : Cond.fieldLink RX7 15 (TX7 1).1 (TX7 1).2.1 (TX7 1).2.2.1 ∈ wsX7_latestOutside := by decide +kernel
def bX7_latestOutside_4 (μ : rj_M) (a0 : Int32) (j4 : Nat) (s4 : Int32) : Int32 := (if (fX7_has μ (nI j4)) = 0 then s4 else (if ((a0 >>> ((nI j4) &&& 31)) &&& 1) = 0 then (if (μ.1 10 (nI j4).toNatClampNeg) ≤ (fX7_beginOf μ s4) then s4 else (nI j4)) else s4))
set_option maxHeartbeats 4000000 in
set_option maxRecDepth 100000 in
theorem lX7_latestOutside_4 {g : rj_G} {ω : rj_W} (hω : rj_ok ω) (μ : rj_M) (a0 : Int32)     {F : rj_F} : ∀ (r j : Nat) (s : Int32), j + r = 16 → (rj_R g RX7 cX7_latestOutside 4 (some .int) wsX7_latestOutside [] (rj_rm 2 0) F 0 ω μ [(0, .ref (ω.2.2 8)), (1, .int a0), (2, .int (rj_fo (bX7_latestOutside_4 μ a0) r j s)), (3, .int (nI 16))] 48 []) → rj_R g RX7 cX7_latestOutside 4 (some .int) wsX7_latestOutside [] (rj_rm 2 0) F 0 ω μ [(0, .ref (ω.2.2 8)), (1, .int a0), (2, .int s), (3, .int (nI j))] 4 [] := by
  intro r
  induction r with
  | zero =>
    intro j s hj K
    have e0 : j = 16 := by omega
    have hge : 16 ≤ nI j := by
      rw [e0]
      exact Int32.le_refl _
    refine rj_iload_n 3 dX7_latestOutside_4 rfl rfl ?_
    refine rj_bipush (v := 16) dX7_latestOutside_5 rfl (by decide) ?_
    refine rj_icmp_ge dX7_latestOutside_7 rfl rfl (fun h5 => ?_) (fun h5 => ?_)
    · have e1 : nI j = nI 16 := by rw [e0]
      rw [e1]
      exact K
    · exact absurd hge h5
  | succ r ih =>
    intro j4 s4 hj K
    have hl4 : j4 < 16 := by omega
    have hg4 : ¬ 16 ≤ nI j4 := nI_ge hl4 (rj_bl rfl)
    refine rj_iload_n 3 dX7_latestOutside_4 rfl rfl ?_
    refine rj_bipush (v := 16) dX7_latestOutside_5 rfl (by decide) ?_
    refine rj_icmp_ge dX7_latestOutside_7 rfl rfl (fun h1 => ?_) (fun h1 => ?_)
    · exact absurd h1 hg4
    · refine rj_aload_n 0 dX7_latestOutside_10 rfl rfl ?_
      refine rj_iload_n 3 dX7_latestOutside_11 rfl rfl ?_
      refine rj_cV (rest := []) (sX7_has (g := g) (ω := ω) hω μ (nI j4)  ) gX7_latestOutside_X7_has (rj_lt hω (k := 8) rfl) (rj_sh hω ly_8) rfl rfl hVX7_has ⟨Nat.le_of_ble_eq_true rfl, Nat.le_of_ble_eq_true rfl⟩ dX7_latestOutside_12 rfl rfl rfl (Nat.le_of_ble_eq_true rfl) rfl (Nat.le_of_ble_eq_true rfl) rfl ?_
      refine rj_if_eq dX7_latestOutside_15 rfl rfl (fun h2 => ?_) (fun h2 => ?_)
      · refine rj_iinc (v := nI (j4 + 1)) (l' := [(3, .int (nI (j4 + 1))), (0, .ref (ω.2.2 8)), (1, .int a0), (2, .int s4)]) 3 dX7_latestOutside_42 rfl rfl (nI_succ j4).symm (rj_bl rfl) rfl ?_
        refine rj_goto dX7_latestOutside_45 rfl ?_
        have e : bX7_latestOutside_4 μ a0 j4 s4 = s4 := by unfold bX7_latestOutside_4; rw [if_pos h2]; try rfl
        exact rj_sub (l' := [(0, .ref (ω.2.2 8)), (1, .int a0), (2, .int s4), (3, .int (nI (j4 + 1)))]) [1, 2, 3, 0] rfl (ih (j4 + 1) s4 (by omega) (by rw [rj_fo_s, e] at K; exact K))
      · refine rj_iload_n 1 dX7_latestOutside_18 rfl rfl ?_
        refine rj_iload_n 3 dX7_latestOutside_19 rfl rfl ?_
        refine rj_ishr dX7_latestOutside_20 rfl ?_
        refine rj_iconst (v := 1) dX7_latestOutside_21 rfl (by decide) ?_
        refine rj_iand dX7_latestOutside_22 rfl ?_
        refine rj_if_ne dX7_latestOutside_23 rfl rfl (fun h3 => ?_) (fun h3 => ?_)
        · refine rj_iinc (v := nI (j4 + 1)) (l' := [(3, .int (nI (j4 + 1))), (0, .ref (ω.2.2 8)), (1, .int a0), (2, .int s4)]) 3 dX7_latestOutside_42 rfl rfl (nI_succ j4).symm (rj_bl rfl) rfl ?_
          refine rj_goto dX7_latestOutside_45 rfl ?_
          have e : bX7_latestOutside_4 μ a0 j4 s4 = s4 := by unfold bX7_latestOutside_4; rw [if_neg h2]; rw [if_neg h3]; try rfl
          exact rj_sub (l' := [(0, .ref (ω.2.2 8)), (1, .int a0), (2, .int s4), (3, .int (nI (j4 + 1)))]) [1, 2, 3, 0] rfl (ih (j4 + 1) s4 (by omega) (by rw [rj_fo_s, e] at K; exact K))
        · refine rj_aload_n 0 dX7_latestOutside_26 rfl rfl ?_
          refine rj_getR (C0 := RX7) (T := TX7) (N := 8) (j := 1) (r := 10) dX7_latestOutside_27 rfl vX7_latestOutside_7 rfl (rj_lt hω (k := 8) rfl) (rj_sh hω ly_8) (by decide) kX7_latestOutside_15 rfl ?_
          refine rj_iload_n 3 dX7_latestOutside_30 rfl rfl ?_
          refine rj_iald dX7_latestOutside_31 rfl (rj_lt hω (k := 10) rfl) (rj_sh hω ly_10) (vp_in_nI hl4 (rj_bl rfl)) ?_
          refine rj_aload_n 0 dX7_latestOutside_32 rfl rfl ?_
          refine rj_iload_n 2 dX7_latestOutside_33 rfl rfl ?_
          refine rj_cV (rest := [.int (μ.1 10 (nI j4).toNatClampNeg)]) (sX7_beginOf (g := g) (ω := ω) hω μ s4  ) gX7_latestOutside_X7_beginOf (rj_lt hω (k := 8) rfl) (rj_sh hω ly_8) rfl rfl hVX7_beginOf ⟨Nat.le_of_ble_eq_true rfl, Nat.le_of_ble_eq_true rfl⟩ dX7_latestOutside_34 rfl rfl rfl (Nat.le_of_ble_eq_true rfl) rfl (Nat.le_of_ble_eq_true rfl) rfl ?_
          refine rj_icmp_le dX7_latestOutside_37 rfl rfl (fun h4 => ?_) (fun h4 => ?_)
          · refine rj_iinc (v := nI (j4 + 1)) (l' := [(3, .int (nI (j4 + 1))), (0, .ref (ω.2.2 8)), (1, .int a0), (2, .int s4)]) 3 dX7_latestOutside_42 rfl rfl (nI_succ j4).symm (rj_bl rfl) rfl ?_
            refine rj_goto dX7_latestOutside_45 rfl ?_
            have e : bX7_latestOutside_4 μ a0 j4 s4 = s4 := by unfold bX7_latestOutside_4; rw [if_neg h2]; rw [if_pos h3]; rw [if_pos h4]; try rfl
            exact rj_sub (l' := [(0, .ref (ω.2.2 8)), (1, .int a0), (2, .int s4), (3, .int (nI (j4 + 1)))]) [1, 2, 3, 0] rfl (ih (j4 + 1) s4 (by omega) (by rw [rj_fo_s, e] at K; exact K))
          · refine rj_iload_n 3 dX7_latestOutside_40 rfl rfl ?_
            refine rj_istore_n (l' := [(2, .int (nI j4)), (0, .ref (ω.2.2 8)), (1, .int a0), (3, .int (nI j4))]) dX7_latestOutside_41 rfl (rj_bl rfl) rfl ?_
            refine rj_iinc (v := nI (j4 + 1)) (l' := [(3, .int (nI (j4 + 1))), (2, .int (nI j4)), (0, .ref (ω.2.2 8)), (1, .int a0)]) 3 dX7_latestOutside_42 rfl rfl (nI_succ j4).symm (rj_bl rfl) rfl ?_
            refine rj_goto dX7_latestOutside_45 rfl ?_
            have e : bX7_latestOutside_4 μ a0 j4 s4 = (nI j4) := by unfold bX7_latestOutside_4; rw [if_neg h2]; rw [if_pos h3]; rw [if_neg h4]; try rfl
            exact rj_sub (l' := [(0, .ref (ω.2.2 8)), (1, .int a0), (2, .int (nI j4)), (3, .int (nI (j4 + 1)))]) [2, 3, 1, 0] rfl (ih (j4 + 1) (nI j4) (by omega) (by rw [rj_fo_s, e] at K; exact K))
def fX7_latestOutside (μ : rj_M) (a0 : Int32) : Int32 := (rj_fo (bX7_latestOutside_4 μ a0) 16 0 (-1))
set_option maxHeartbeats 4000000 in
set_option maxRecDepth 100000 in
theorem sX7_latestOutside {g : rj_G} {ω : rj_W} (hω : rj_ok ω) (μ : rj_M) (a0 : Int32)   : rj_Sp g yX7_latestOutside wsX7_latestOutside (rj_rm 2 0) [.ref (ω.2.2 8), .int a0] ω μ (rj_D (.inl (some (.int (fX7_latestOutside μ a0)))) ω μ) := by
  refine rj_of' (cc := cX7_latestOutside) (nL := 4) (ret := (some .int)) (own := RX7) (l0 := [(0, .ref (ω.2.2 8)), (1, .int a0)]) rfl (by decide +kernel) rfl (Nat.le_of_ble_eq_true rfl) rfl ?_
  refine rj_iconst (v := (-1)) dX7_latestOutside_0 rfl (by decide) ?_
  refine rj_istore_n (l' := [(2, .int (-1)), (0, .ref (ω.2.2 8)), (1, .int a0)]) dX7_latestOutside_1 rfl (rj_bl rfl) rfl ?_
  refine rj_iconst (v := 0) dX7_latestOutside_2 rfl (by decide) ?_
  refine rj_istore_n (l' := [(3, .int 0), (2, .int (-1)), (0, .ref (ω.2.2 8)), (1, .int a0)]) dX7_latestOutside_3 rfl (rj_bl rfl) rfl ?_
  refine rj_sub (l' := [(0, .ref (ω.2.2 8)), (1, .int a0), (2, .int (-1)), (3, .int (nI 0))]) [2, 3, 1, 0] rfl ?_
  refine lX7_latestOutside_4 hω μ a0     16 0 (-1) rfl ?_
  refine rj_iload_n 2 dX7_latestOutside_48 rfl rfl ?_
  exact rj_iret dX7_latestOutside_49 rfl (Nat.le_of_ble_eq_true rfl) (Nat.le_of_ble_eq_true rfl) ⟨(by unfold fX7_latestOutside; rfl), rfl, rfl⟩
theorem hSX7_shiftTo : yX7_shiftTo.cls ≠ "java/lang/invoke/MethodHandle" ∧ yX7_shiftTo.cls ≠ "java/lang/invoke/VarHandle" ∧ (parseMethodDescriptor yX7_shiftTo.desc).map (fun d => d.parameters.length) = some 2 := by decide +kernel
theorem hVX7_shiftTo : yX7_shiftTo.cls = RX7 ∧ yX7_shiftTo.cls ≠ "java/lang/invoke/MethodHandle" ∧ yX7_shiftTo.cls ≠ "java/lang/invoke/VarHandle" ∧ (parseMethodDescriptor yX7_shiftTo.desc).map (fun d => d.parameters.length) = some 2 := by decide +kernel
theorem vX7_shiftTo_7 : ∀ w ∈ u_ws RX7 TX7 8, w ∈ wsX7_shiftTo := by decide +kernel
theorem kX7_shiftTo_9 : Cond.fieldLink RX7 9 (TX7 0).1 (TX7 0).2.1 (TX7 0).2.2.1 ∈ wsX7_shiftTo := by decide +kernel
theorem jX7_shiftTo_44_i : Cond.initialized yX11_replace.cls ∈ wsX7_shiftTo := by decide +kernel
theorem jX7_shiftTo_44_s : Cond.static yX11_replace ∈ wsX7_shiftTo := by decide +kernel
theorem jX7_shiftTo_44_n : (RX7, 44, yX11_replace, "Festivalgrounds") ∈ rj_nw := by decide +kernel
def mX7_shiftTo (μ : rj_M) (a0 : Int32) (a1 : Int32) : rj_M := (mX11_replace μ 9 16 a0 a1)
set_option maxHeartbeats 4000000 in
set_option maxRecDepth 100000 in
theorem sX7_shiftTo {g : rj_G} {ω : rj_W} (hω : rj_ok ω) (μ : rj_M) (a0 : Int32) (a1 : Int32)   : rj_Sp g yX7_shiftTo wsX7_shiftTo (rj_rm 1 0) [.ref (ω.2.2 8), .int a0, .int a1] ω μ (rj_D (.inl none) ω (mX7_shiftTo μ a0 a1)) := by
  refine rj_of' (cc := cX7_shiftTo) (nL := 3) (ret := none) (own := RX7) (l0 := [(0, .ref (ω.2.2 8)), (1, .int a0), (2, .int a1)]) rfl (by decide +kernel) rfl (Nat.le_of_ble_eq_true rfl) rfl ?_
  refine rj_aload_n 0 dX7_shiftTo_0 rfl rfl ?_
  refine rj_getR (C0 := RX7) (T := TX7) (N := 8) (j := 0) (r := 9) dX7_shiftTo_1 rfl vX7_shiftTo_7 rfl (rj_lt hω (k := 8) rfl) (rj_sh hω ly_8) (by decide) kX7_shiftTo_9 rfl ?_
  refine rj_iload_n 1 dX7_shiftTo_4 rfl rfl ?_
  refine rj_iload_n 2 dX7_shiftTo_5 rfl rfl ?_
  refine rj_cSN (rest := []) (sX11_replace (g := g) (ω := ω) μ 9 16 a0 a1 (rj_lt hω (k := 9) rfl) (rj_sh hω ly_9) (rj_bl rfl) ) ggX7_shiftTo_X11_replace jX7_shiftTo_44_i jX7_shiftTo_44_s jX7_shiftTo_44_n rfl hSX11_replace ⟨Nat.le_of_ble_eq_true rfl, Nat.le_of_ble_eq_true rfl⟩ dX7_shiftTo_6 rfl rfl rfl (Nat.le_of_ble_eq_true rfl) rfl (Nat.le_of_ble_eq_true rfl) rfl ?_
  refine rj_pop dX7_shiftTo_9 rfl rfl ?_
  exact rj_vret dX7_shiftTo_10 rfl (Nat.le_of_ble_eq_true rfl) (Nat.le_of_ble_eq_true rfl) ⟨rfl, rfl, (by unfold mX7_shiftTo; rfl)⟩
theorem hSX7_remove : yX7_remove.cls ≠ "java/lang/invoke/MethodHandle" ∧ yX7_remove.cls ≠ "java/lang/invoke/VarHandle" ∧ (parseMethodDescriptor yX7_remove.desc).map (fun d => d.parameters.length) = some 1 := by decide +kernel
theorem hVX7_remove : yX7_remove.cls = RX7 ∧ yX7_remove.cls ≠ "java/lang/invoke/MethodHandle" ∧ yX7_remove.cls ≠ "java/lang/invoke/VarHandle" ∧ (parseMethodDescriptor yX7_remove.desc).map (fun d => d.parameters.length) = some 1 := by decide +kernel
theorem vX7_remove_7 : ∀ w ∈ u_ws RX7 TX7 8, w ∈ wsX7_remove := by decide +kernel
theorem kX7_remove_24 : Cond.fieldLink RX7 24 (TX7 4).1 (TX7 4).2.1 (TX7 4).2.2.1 ∈ wsX7_remove := by decide +kernel
theorem jX7_remove_44_i : Cond.initialized yX11_replace.cls ∈ wsX7_remove := by decide +kernel
theorem jX7_remove_44_s : Cond.static yX11_replace ∈ wsX7_remove := by decide +kernel
theorem jX7_remove_44_n : (RX7, 44, yX11_replace, "Festivalgrounds") ∈ rj_nw := by decide +kernel
theorem kX7_remove_27 : Cond.fieldLink RX7 27 (TX7 5).1 (TX7 5).2.1 (TX7 5).2.2.1 ∈ wsX7_remove := by decide +kernel
def bX7_remove_12 (μ : rj_M) (a0 : Int32) (j12 : Nat) (s12 : rj_M) : rj_M := (mX11_replace s12 14 192 (((nI j12) * 16) + a0) 0)
set_option maxHeartbeats 4000000 in
set_option maxRecDepth 100000 in
theorem lX7_remove_12 {g : rj_G} {ω : rj_W} (hω : rj_ok ω) (μ : rj_M) (a0 : Int32)     {F : rj_F} : ∀ (r j : Nat) (s : rj_M), j + r = 12 → (rj_R g RX7 cX7_remove 3 none wsX7_remove [] (rj_rm 1 0) F 0 ω (rj_fo (bX7_remove_12 μ a0) r j s) [(0, .ref (ω.2.2 8)), (1, .int a0), (2, .int (nI 12))] 39 []) → rj_R g RX7 cX7_remove 3 none wsX7_remove [] (rj_rm 1 0) F 0 ω s [(0, .ref (ω.2.2 8)), (1, .int a0), (2, .int (nI j))] 12 [] := by
  intro r
  induction r with
  | zero =>
    intro j s hj K
    have e0 : j = 12 := by omega
    have hge : 12 ≤ nI j := by
      rw [e0]
      exact Int32.le_refl _
    refine rj_iload_n 2 dX7_remove_12 rfl rfl ?_
    refine rj_bipush (v := 12) dX7_remove_13 rfl (by decide) ?_
    refine rj_icmp_ge dX7_remove_15 rfl rfl (fun h2 => ?_) (fun h2 => ?_)
    · have e1 : nI j = nI 12 := by rw [e0]
      rw [e1]
      exact K
    · exact absurd hge h2
  | succ r ih =>
    intro j12 s12 hj K
    have hl12 : j12 < 12 := by omega
    have hg12 : ¬ 12 ≤ nI j12 := nI_ge hl12 (rj_bl rfl)
    refine rj_iload_n 2 dX7_remove_12 rfl rfl ?_
    refine rj_bipush (v := 12) dX7_remove_13 rfl (by decide) ?_
    refine rj_icmp_ge dX7_remove_15 rfl rfl (fun h1 => ?_) (fun h1 => ?_)
    · exact absurd h1 hg12
    · refine rj_aload_n 0 dX7_remove_18 rfl rfl ?_
      refine rj_getR (C0 := RX7) (T := TX7) (N := 8) (j := 5) (r := 14) dX7_remove_19 rfl vX7_remove_7 rfl (rj_lt hω (k := 8) rfl) (rj_sh hω ly_8) (by decide) kX7_remove_27 rfl ?_
      refine rj_iload_n 2 dX7_remove_22 rfl rfl ?_
      refine rj_bipush (v := 16) dX7_remove_23 rfl (by decide) ?_
      refine rj_imul dX7_remove_25 rfl ?_
      refine rj_iload_n 1 dX7_remove_26 rfl rfl ?_
      refine rj_iadd dX7_remove_27 rfl ?_
      refine rj_iconst (v := 0) dX7_remove_28 rfl (by decide) ?_
      refine rj_cSN (rest := []) (sX11_replace (g := g) (ω := ω) s12 14 192 (((nI j12) * 16) + a0) 0 (rj_lt hω (k := 14) rfl) (rj_sh hω ly_14) (rj_bl rfl) ) ggX7_remove_X11_replace jX7_remove_44_i jX7_remove_44_s jX7_remove_44_n rfl hSX11_replace ⟨Nat.le_of_ble_eq_true rfl, Nat.le_of_ble_eq_true rfl⟩ dX7_remove_29 rfl rfl rfl (Nat.le_of_ble_eq_true rfl) rfl (Nat.le_of_ble_eq_true rfl) rfl ?_
      refine rj_pop dX7_remove_32 rfl rfl ?_
      refine rj_iinc (v := nI (j12 + 1)) (l' := [(2, .int (nI (j12 + 1))), (0, .ref (ω.2.2 8)), (1, .int a0)]) 2 dX7_remove_33 rfl rfl (nI_succ j12).symm (rj_bl rfl) rfl ?_
      refine rj_goto dX7_remove_36 rfl ?_
      have e : bX7_remove_12 μ a0 j12 s12 = (mX11_replace s12 14 192 (((nI j12) * 16) + a0) 0) := by unfold bX7_remove_12; rfl
      exact rj_sub (l' := [(0, .ref (ω.2.2 8)), (1, .int a0), (2, .int (nI (j12 + 1)))]) [1, 2, 0] rfl (ih (j12 + 1) (mX11_replace s12 14 192 (((nI j12) * 16) + a0) 0) (by omega) (by rw [rj_fo_s, e] at K; exact K))
def mX7_remove (μ : rj_M) (a0 : Int32) : rj_M := (rj_fo (bX7_remove_12 μ a0) 12 0 (mX11_replace μ 13 16 a0 0))
set_option maxHeartbeats 4000000 in
set_option maxRecDepth 100000 in
theorem sX7_remove {g : rj_G} {ω : rj_W} (hω : rj_ok ω) (μ : rj_M) (a0 : Int32)   : rj_Sp g yX7_remove wsX7_remove (rj_rm 1 0) [.ref (ω.2.2 8), .int a0] ω μ (rj_D (.inl none) ω (mX7_remove μ a0)) := by
  refine rj_of' (cc := cX7_remove) (nL := 3) (ret := none) (own := RX7) (l0 := [(0, .ref (ω.2.2 8)), (1, .int a0)]) rfl (by decide +kernel) rfl (Nat.le_of_ble_eq_true rfl) rfl ?_
  refine rj_aload_n 0 dX7_remove_0 rfl rfl ?_
  refine rj_getR (C0 := RX7) (T := TX7) (N := 8) (j := 4) (r := 13) dX7_remove_1 rfl vX7_remove_7 rfl (rj_lt hω (k := 8) rfl) (rj_sh hω ly_8) (by decide) kX7_remove_24 rfl ?_
  refine rj_iload_n 1 dX7_remove_4 rfl rfl ?_
  refine rj_iconst (v := 0) dX7_remove_5 rfl (by decide) ?_
  refine rj_cSN (rest := []) (sX11_replace (g := g) (ω := ω) μ 13 16 a0 0 (rj_lt hω (k := 13) rfl) (rj_sh hω ly_13) (rj_bl rfl) ) ggX7_remove_X11_replace jX7_remove_44_i jX7_remove_44_s jX7_remove_44_n rfl hSX11_replace ⟨Nat.le_of_ble_eq_true rfl, Nat.le_of_ble_eq_true rfl⟩ dX7_remove_6 rfl rfl rfl (Nat.le_of_ble_eq_true rfl) rfl (Nat.le_of_ble_eq_true rfl) rfl ?_
  refine rj_pop dX7_remove_9 rfl rfl ?_
  refine rj_iconst (v := 0) dX7_remove_10 rfl (by decide) ?_
  refine rj_istore_n (l' := [(2, .int 0), (0, .ref (ω.2.2 8)), (1, .int a0)]) dX7_remove_11 rfl (rj_bl rfl) rfl ?_
  refine rj_sub (l' := [(0, .ref (ω.2.2 8)), (1, .int a0), (2, .int (nI 0))]) [1, 2, 0] rfl ?_
  refine lX7_remove_12 hω μ a0     12 0 (mX11_replace μ 13 16 a0 0) rfl ?_
  exact rj_vret dX7_remove_39 rfl (Nat.le_of_ble_eq_true rfl) (Nat.le_of_ble_eq_true rfl) ⟨rfl, rfl, (by unfold mX7_remove; rfl)⟩
theorem hSX7_add : yX7_add.cls ≠ "java/lang/invoke/MethodHandle" ∧ yX7_add.cls ≠ "java/lang/invoke/VarHandle" ∧ (parseMethodDescriptor yX7_add.desc).map (fun d => d.parameters.length) = some 6 := by decide +kernel
theorem hVX7_add : yX7_add.cls = RX7 ∧ yX7_add.cls ≠ "java/lang/invoke/MethodHandle" ∧ yX7_add.cls ≠ "java/lang/invoke/VarHandle" ∧ (parseMethodDescriptor yX7_add.desc).map (fun d => d.parameters.length) = some 6 := by decide +kernel
theorem vX7_add_7 : ∀ w ∈ u_ws RX7 TX7 8, w ∈ wsX7_add := by decide +kernel
theorem kX7_add_9 : Cond.fieldLink RX7 9 (TX7 0).1 (TX7 0).2.1 (TX7 0).2.2.1 ∈ wsX7_add := by decide +kernel
theorem jX7_add_44_i : Cond.initialized yX11_replace.cls ∈ wsX7_add := by decide +kernel
theorem jX7_add_44_s : Cond.static yX11_replace ∈ wsX7_add := by decide +kernel
theorem jX7_add_44_n : (RX7, 44, yX11_replace, "Festivalgrounds") ∈ rj_nw := by decide +kernel
theorem kX7_add_15 : Cond.fieldLink RX7 15 (TX7 1).1 (TX7 1).2.1 (TX7 1).2.2.1 ∈ wsX7_add := by decide +kernel
theorem kX7_add_18 : Cond.fieldLink RX7 18 (TX7 2).1 (TX7 2).2.1 (TX7 2).2.2.1 ∈ wsX7_add := by decide +kernel
theorem kX7_add_21 : Cond.fieldLink RX7 21 (TX7 3).1 (TX7 3).2.1 (TX7 3).2.2.1 ∈ wsX7_add := by decide +kernel
theorem kX7_add_24 : Cond.fieldLink RX7 24 (TX7 4).1 (TX7 4).2.1 (TX7 4).2.2.1 ∈ wsX7_add := by decide +kernel
def mX7_add (μ : rj_M) (a0 : Int32) (a1 : Int32) (a2 : Int32) (a3 : Int32) (a4 : Int32) (a5 : Int32) : rj_M := (mX11_replace (mX11_replace (mX11_replace (mX11_replace (mX11_replace μ 9 16 a0 a1) 10 16 a0 a2) 11 16 a0 a3) 12 16 a0 a4) 13 16 a0 a5)
set_option maxHeartbeats 4000000 in
set_option maxRecDepth 100000 in
theorem sX7_add {g : rj_G} {ω : rj_W} (hω : rj_ok ω) (μ : rj_M) (a0 : Int32) (a1 : Int32) (a2 : Int32) (a3 : Int32) (a4 : Int32) (a5 : Int32)   : rj_Sp g yX7_add wsX7_add (rj_rm 1 0) [.ref (ω.2.2 8), .int a0, .int a1, .int a2, .int a3, .int a4, .int a5] ω μ (rj_D (.inl none) ω (mX7_add μ a0 a1 a2 a3 a4 a5)) := by
  refine rj_of' (cc := cX7_add) (nL := 7) (ret := none) (own := RX7) (l0 := [(0, .ref (ω.2.2 8)), (1, .int a0), (2, .int a1), (3, .int a2), (4, .int a3), (5, .int a4), (6, .int a5)]) rfl (by decide +kernel) rfl (Nat.le_of_ble_eq_true rfl) rfl ?_
  refine rj_aload_n 0 dX7_add_0 rfl rfl ?_
  refine rj_getR (C0 := RX7) (T := TX7) (N := 8) (j := 0) (r := 9) dX7_add_1 rfl vX7_add_7 rfl (rj_lt hω (k := 8) rfl) (rj_sh hω ly_8) (by decide) kX7_add_9 rfl ?_
  refine rj_iload_n 1 dX7_add_4 rfl rfl ?_
  refine rj_iload_n 2 dX7_add_5 rfl rfl ?_
  refine rj_cSN (rest := []) (sX11_replace (g := g) (ω := ω) μ 9 16 a0 a1 (rj_lt hω (k := 9) rfl) (rj_sh hω ly_9) (rj_bl rfl) ) ggX7_add_X11_replace jX7_add_44_i jX7_add_44_s jX7_add_44_n rfl hSX11_replace ⟨Nat.le_of_ble_eq_true rfl, Nat.le_of_ble_eq_true rfl⟩ dX7_add_6 rfl rfl rfl (Nat.le_of_ble_eq_true rfl) rfl (Nat.le_of_ble_eq_true rfl) rfl ?_
  refine rj_pop dX7_add_9 rfl rfl ?_
  refine rj_aload_n 0 dX7_add_10 rfl rfl ?_
  refine rj_getR (C0 := RX7) (T := TX7) (N := 8) (j := 1) (r := 10) dX7_add_11 rfl vX7_add_7 rfl (rj_lt hω (k := 8) rfl) (rj_sh hω ly_8) (by decide) kX7_add_15 rfl ?_
  refine rj_iload_n 1 dX7_add_14 rfl rfl ?_
  refine rj_iload_n 3 dX7_add_15 rfl rfl ?_
  refine rj_cSN (rest := []) (sX11_replace (g := g) (ω := ω) (mX11_replace μ 9 16 a0 a1) 10 16 a0 a2 (rj_lt hω (k := 10) rfl) (rj_sh hω ly_10) (rj_bl rfl) ) ggX7_add_X11_replace jX7_add_44_i jX7_add_44_s jX7_add_44_n rfl hSX11_replace ⟨Nat.le_of_ble_eq_true rfl, Nat.le_of_ble_eq_true rfl⟩ dX7_add_16 rfl rfl rfl (Nat.le_of_ble_eq_true rfl) rfl (Nat.le_of_ble_eq_true rfl) rfl ?_
  refine rj_pop dX7_add_19 rfl rfl ?_
  refine rj_aload_n 0 dX7_add_20 rfl rfl ?_
  refine rj_getR (C0 := RX7) (T := TX7) (N := 8) (j := 2) (r := 11) dX7_add_21 rfl vX7_add_7 rfl (rj_lt hω (k := 8) rfl) (rj_sh hω ly_8) (by decide) kX7_add_18 rfl ?_
  refine rj_iload_n 1 dX7_add_24 rfl rfl ?_
  refine rj_iload 4 dX7_add_25 rfl rfl ?_
  refine rj_cSN (rest := []) (sX11_replace (g := g) (ω := ω) (mX11_replace (mX11_replace μ 9 16 a0 a1) 10 16 a0 a2) 11 16 a0 a3 (rj_lt hω (k := 11) rfl) (rj_sh hω ly_11) (rj_bl rfl) ) ggX7_add_X11_replace jX7_add_44_i jX7_add_44_s jX7_add_44_n rfl hSX11_replace ⟨Nat.le_of_ble_eq_true rfl, Nat.le_of_ble_eq_true rfl⟩ dX7_add_27 rfl rfl rfl (Nat.le_of_ble_eq_true rfl) rfl (Nat.le_of_ble_eq_true rfl) rfl ?_
  refine rj_pop dX7_add_30 rfl rfl ?_
  refine rj_aload_n 0 dX7_add_31 rfl rfl ?_
  refine rj_getR (C0 := RX7) (T := TX7) (N := 8) (j := 3) (r := 12) dX7_add_32 rfl vX7_add_7 rfl (rj_lt hω (k := 8) rfl) (rj_sh hω ly_8) (by decide) kX7_add_21 rfl ?_
  refine rj_iload_n 1 dX7_add_35 rfl rfl ?_
  refine rj_iload 5 dX7_add_36 rfl rfl ?_
  refine rj_cSN (rest := []) (sX11_replace (g := g) (ω := ω) (mX11_replace (mX11_replace (mX11_replace μ 9 16 a0 a1) 10 16 a0 a2) 11 16 a0 a3) 12 16 a0 a4 (rj_lt hω (k := 12) rfl) (rj_sh hω ly_12) (rj_bl rfl) ) ggX7_add_X11_replace jX7_add_44_i jX7_add_44_s jX7_add_44_n rfl hSX11_replace ⟨Nat.le_of_ble_eq_true rfl, Nat.le_of_ble_eq_true rfl⟩ dX7_add_38 rfl rfl rfl (Nat.le_of_ble_eq_true rfl) rfl (Nat.le_of_ble_eq_true rfl) rfl ?_
  refine rj_pop dX7_add_41 rfl rfl ?_
  refine rj_aload_n 0 dX7_add_42 rfl rfl ?_
  refine rj_getR (C0 := RX7) (T := TX7) (N := 8) (j := 4) (r := 13) dX7_add_43 rfl vX7_add_7 rfl (rj_lt hω (k := 8) rfl) (rj_sh hω ly_8) (by decide) kX7_add_24 rfl ?_
  refine rj_iload_n 1 dX7_add_46 rfl rfl ?_
  refine rj_iload 6 dX7_add_47 rfl rfl ?_
  refine rj_cSN (rest := []) (sX11_replace (g := g) (ω := ω) (mX11_replace (mX11_replace (mX11_replace (mX11_replace μ 9 16 a0 a1) 10 16 a0 a2) 11 16 a0 a3) 12 16 a0 a4) 13 16 a0 a5 (rj_lt hω (k := 13) rfl) (rj_sh hω ly_13) (rj_bl rfl) ) ggX7_add_X11_replace jX7_add_44_i jX7_add_44_s jX7_add_44_n rfl hSX11_replace ⟨Nat.le_of_ble_eq_true rfl, Nat.le_of_ble_eq_true rfl⟩ dX7_add_49 rfl rfl rfl (Nat.le_of_ble_eq_true rfl) rfl (Nat.le_of_ble_eq_true rfl) rfl ?_
  refine rj_pop dX7_add_52 rfl rfl ?_
  exact rj_vret dX7_add_53 rfl (Nat.le_of_ble_eq_true rfl) (Nat.le_of_ble_eq_true rfl) ⟨rfl, rfl, (by unfold mX7_add; rfl)⟩
theorem hSX7_lookAtAll : yX7_lookAtAll.cls ≠ "java/lang/invoke/MethodHandle" ∧ yX7_lookAtAll.cls ≠ "java/lang/invoke/VarHandle" ∧ (parseMethodDescriptor yX7_lookAtAll.desc).map (fun d => d.parameters.length) = some 0 := by decide +kernel
theorem hVX7_lookAtAll : yX7_lookAtAll.cls = RX7 ∧ yX7_lookAtAll.cls ≠ "java/lang/invoke/MethodHandle" ∧ yX7_lookAtAll.cls ≠ "java/lang/invoke/VarHandle" ∧ (parseMethodDescriptor yX7_lookAtAll.desc).map (fun d => d.parameters.length) = some 0 := by decide +kernel
theorem vX7_lookAtAll_7 : ∀ w ∈ u_ws RX7 TX7 8, w ∈ wsX7_lookAtAll := by decide +kernel
theorem kX7_lookAtAll_33 : Cond.fieldLink RX7 33 (TX7 7).1 (TX7 7).2.1 (TX7 7).2.2.1 ∈ wsX7_lookAtAll := by decide +kernel
theorem kX7_lookAtAll_30 : Cond.fieldLink RX7 30 (TX7 6).1 (TX7 6).2.1 (TX7 6).2.2.1 ∈ wsX7_lookAtAll := by decide +kernel
def bX7_lookAtAll_28 (μ : rj_M) (j2 : Nat) (s2 : rj_M) (j28 : Nat) (s28 : rj_M) : rj_M := (if nI j28 = nI j2 then s28 else (if (fX7_areFoes s28 (nI j2) (nI j28)) = 0 then s28 else (rj_pi s28 15 (nI j2).toNatClampNeg ((s28.1 15 (nI j2).toNatClampNeg) ||| (1 <<< ((nI j28) &&& 31))))))
set_option maxHeartbeats 4000000 in
set_option maxRecDepth 100000 in
theorem lX7_lookAtAll_28 {g : rj_G} {ω : rj_W} (hω : rj_ok ω) (μ : rj_M) (j2 : Nat) (s2 : rj_M)   (hl2 : j2 < 16)  {F : rj_F} : ∀ (r j : Nat) (s : rj_M), j + r = 16 → (rj_R g RX7 cX7_lookAtAll 3 none wsX7_lookAtAll [] (rj_rm 4 0) F 0 ω (rj_fo (bX7_lookAtAll_28 μ j2 s2) r j s) [(0, .ref (ω.2.2 8)), (1, .int (nI j2)), (2, .int (nI 16))] 66 []) → rj_R g RX7 cX7_lookAtAll 3 none wsX7_lookAtAll [] (rj_rm 4 0) F 0 ω s [(0, .ref (ω.2.2 8)), (1, .int (nI j2)), (2, .int (nI j))] 28 [] := by
  intro r
  induction r with
  | zero =>
    intro j s hj K
    have e0 : j = 16 := by omega
    have hge : 16 ≤ nI j := by
      rw [e0]
      exact Int32.le_refl _
    refine rj_iload_n 2 dX7_lookAtAll_28 rfl rfl ?_
    refine rj_bipush (v := 16) dX7_lookAtAll_29 rfl (by decide) ?_
    refine rj_icmp_ge dX7_lookAtAll_31 rfl rfl (fun h5 => ?_) (fun h5 => ?_)
    · have e1 : nI j = nI 16 := by rw [e0]
      rw [e1]
      exact K
    · exact absurd hge h5
  | succ r ih =>
    intro j28 s28 hj K
    have hl28 : j28 < 16 := by omega
    have hg28 : ¬ 16 ≤ nI j28 := nI_ge hl28 (rj_bl rfl)
    refine rj_iload_n 2 dX7_lookAtAll_28 rfl rfl ?_
    refine rj_bipush (v := 16) dX7_lookAtAll_29 rfl (by decide) ?_
    refine rj_icmp_ge dX7_lookAtAll_31 rfl rfl (fun h2 => ?_) (fun h2 => ?_)
    · exact absurd h2 hg28
    · refine rj_iload_n 2 dX7_lookAtAll_34 rfl rfl ?_
      refine rj_iload_n 1 dX7_lookAtAll_35 rfl rfl ?_
      refine rj_icmp_eq dX7_lookAtAll_36 rfl rfl (fun h3 => ?_) (fun h3 => ?_)
      · refine rj_iinc (v := nI (j28 + 1)) (l' := [(2, .int (nI (j28 + 1))), (0, .ref (ω.2.2 8)), (1, .int (nI j2))]) 2 dX7_lookAtAll_60 rfl rfl (nI_succ j28).symm (rj_bl rfl) rfl ?_
        refine rj_goto dX7_lookAtAll_63 rfl ?_
        have e : bX7_lookAtAll_28 μ j2 s2 j28 s28 = s28 := by unfold bX7_lookAtAll_28; rw [if_pos h3]; try rfl
        exact rj_sub (l' := [(0, .ref (ω.2.2 8)), (1, .int (nI j2)), (2, .int (nI (j28 + 1)))]) [1, 2, 0] rfl (ih (j28 + 1) s28 (by omega) (by rw [rj_fo_s, e] at K; exact K))
      · refine rj_aload_n 0 dX7_lookAtAll_39 rfl rfl ?_
        refine rj_iload_n 1 dX7_lookAtAll_40 rfl rfl ?_
        refine rj_iload_n 2 dX7_lookAtAll_41 rfl rfl ?_
        refine rj_cV (rest := []) (sX7_areFoes (g := g) (ω := ω) hω s28 (nI j2) (nI j28)  ) gX7_lookAtAll_X7_areFoes (rj_lt hω (k := 8) rfl) (rj_sh hω ly_8) rfl rfl hVX7_areFoes ⟨Nat.le_of_ble_eq_true rfl, Nat.le_of_ble_eq_true rfl⟩ dX7_lookAtAll_42 rfl rfl rfl (Nat.le_of_ble_eq_true rfl) rfl (Nat.le_of_ble_eq_true rfl) rfl ?_
        refine rj_if_eq dX7_lookAtAll_45 rfl rfl (fun h4 => ?_) (fun h4 => ?_)
        · refine rj_iinc (v := nI (j28 + 1)) (l' := [(2, .int (nI (j28 + 1))), (0, .ref (ω.2.2 8)), (1, .int (nI j2))]) 2 dX7_lookAtAll_60 rfl rfl (nI_succ j28).symm (rj_bl rfl) rfl ?_
          refine rj_goto dX7_lookAtAll_63 rfl ?_
          have e : bX7_lookAtAll_28 μ j2 s2 j28 s28 = s28 := by unfold bX7_lookAtAll_28; rw [if_neg h3]; rw [if_pos h4]; try rfl
          exact rj_sub (l' := [(0, .ref (ω.2.2 8)), (1, .int (nI j2)), (2, .int (nI (j28 + 1)))]) [1, 2, 0] rfl (ih (j28 + 1) s28 (by omega) (by rw [rj_fo_s, e] at K; exact K))
        · refine rj_aload_n 0 dX7_lookAtAll_48 rfl rfl ?_
          refine rj_getR (C0 := RX7) (T := TX7) (N := 8) (j := 6) (r := 15) dX7_lookAtAll_49 rfl vX7_lookAtAll_7 rfl (rj_lt hω (k := 8) rfl) (rj_sh hω ly_8) (by decide) kX7_lookAtAll_30 rfl ?_
          refine rj_iload_n 1 dX7_lookAtAll_52 rfl rfl ?_
          refine rj_dup2 dX7_lookAtAll_53 rfl rfl rfl ?_
          refine rj_iald dX7_lookAtAll_54 rfl (rj_lt hω (k := 15) rfl) (rj_sh hω ly_15) (vp_in_nI hl2 (rj_bl rfl)) ?_
          refine rj_iconst (v := 1) dX7_lookAtAll_55 rfl (by decide) ?_
          refine rj_iload_n 2 dX7_lookAtAll_56 rfl rfl ?_
          refine rj_ishl dX7_lookAtAll_57 rfl ?_
          refine rj_ior dX7_lookAtAll_58 rfl ?_
          refine rj_iast dX7_lookAtAll_59 rfl (rj_lt hω (k := 15) rfl) (rj_sh hω ly_15) (vp_in_nI hl2 (rj_bl rfl)) ?_
          refine rj_iinc (v := nI (j28 + 1)) (l' := [(2, .int (nI (j28 + 1))), (0, .ref (ω.2.2 8)), (1, .int (nI j2))]) 2 dX7_lookAtAll_60 rfl rfl (nI_succ j28).symm (rj_bl rfl) rfl ?_
          refine rj_goto dX7_lookAtAll_63 rfl ?_
          have e : bX7_lookAtAll_28 μ j2 s2 j28 s28 = (rj_pi s28 15 (nI j2).toNatClampNeg ((s28.1 15 (nI j2).toNatClampNeg) ||| (1 <<< ((nI j28) &&& 31)))) := by unfold bX7_lookAtAll_28; rw [if_neg h3]; rw [if_neg h4]; try rfl
          exact rj_sub (l' := [(0, .ref (ω.2.2 8)), (1, .int (nI j2)), (2, .int (nI (j28 + 1)))]) [1, 2, 0] rfl (ih (j28 + 1) (rj_pi s28 15 (nI j2).toNatClampNeg ((s28.1 15 (nI j2).toNatClampNeg) ||| (1 <<< ((nI j28) &&& 31)))) (by omega) (by rw [rj_fo_s, e] at K; exact K))
def bX7_lookAtAll_2 (μ : rj_M) (j2 : Nat) (s2 : rj_M) : rj_M := (rj_fo (bX7_lookAtAll_28 μ j2 s2) 16 0 (rj_pi (rj_pi s2 16 (nI j2).toNatClampNeg (fX7_pleasing s2 (nI j2))) 15 (nI j2).toNatClampNeg 0))
set_option maxHeartbeats 4000000 in
set_option maxRecDepth 100000 in
theorem lX7_lookAtAll_2 {g : rj_G} {ω : rj_W} (hω : rj_ok ω) (μ : rj_M)     {F : rj_F} : ∀ (r j : Nat) (s : rj_M), j + r = 16 → (rj_R g RX7 cX7_lookAtAll 3 none wsX7_lookAtAll [] (rj_rm 4 0) F 0 ω (rj_fo (bX7_lookAtAll_2 μ) r j s) [(0, .ref (ω.2.2 8)), (1, .int (nI 16))] 72 []) → rj_R g RX7 cX7_lookAtAll 3 none wsX7_lookAtAll [] (rj_rm 4 0) F 0 ω s [(0, .ref (ω.2.2 8)), (1, .int (nI j))] 2 [] := by
  intro r
  induction r with
  | zero =>
    intro j s hj K
    have e0 : j = 16 := by omega
    have hge : 16 ≤ nI j := by
      rw [e0]
      exact Int32.le_refl _
    refine rj_iload_n 1 dX7_lookAtAll_2 rfl rfl ?_
    refine rj_bipush (v := 16) dX7_lookAtAll_3 rfl (by decide) ?_
    refine rj_icmp_ge dX7_lookAtAll_5 rfl rfl (fun h6 => ?_) (fun h6 => ?_)
    · have e1 : nI j = nI 16 := by rw [e0]
      rw [e1]
      exact K
    · exact absurd hge h6
  | succ r ih =>
    intro j2 s2 hj K
    have hl2 : j2 < 16 := by omega
    have hg2 : ¬ 16 ≤ nI j2 := nI_ge hl2 (rj_bl rfl)
    refine rj_iload_n 1 dX7_lookAtAll_2 rfl rfl ?_
    refine rj_bipush (v := 16) dX7_lookAtAll_3 rfl (by decide) ?_
    refine rj_icmp_ge dX7_lookAtAll_5 rfl rfl (fun h1 => ?_) (fun h1 => ?_)
    · exact absurd h1 hg2
    · refine rj_aload_n 0 dX7_lookAtAll_8 rfl rfl ?_
      refine rj_getR (C0 := RX7) (T := TX7) (N := 8) (j := 7) (r := 16) dX7_lookAtAll_9 rfl vX7_lookAtAll_7 rfl (rj_lt hω (k := 8) rfl) (rj_sh hω ly_8) (by decide) kX7_lookAtAll_33 rfl ?_
      refine rj_iload_n 1 dX7_lookAtAll_12 rfl rfl ?_
      refine rj_aload_n 0 dX7_lookAtAll_13 rfl rfl ?_
      refine rj_iload_n 1 dX7_lookAtAll_14 rfl rfl ?_
      refine rj_cV (rest := [.int (nI j2), .ref (ω.2.2 16)]) (sX7_pleasing (g := g) (ω := ω) hω s2 (nI j2)  ) gX7_lookAtAll_X7_pleasing (rj_lt hω (k := 8) rfl) (rj_sh hω ly_8) rfl rfl hVX7_pleasing ⟨Nat.le_of_ble_eq_true rfl, Nat.le_of_ble_eq_true rfl⟩ dX7_lookAtAll_15 rfl rfl rfl (Nat.le_of_ble_eq_true rfl) rfl (Nat.le_of_ble_eq_true rfl) rfl ?_
      refine rj_iast dX7_lookAtAll_18 rfl (rj_lt hω (k := 16) rfl) (rj_sh hω ly_16) (vp_in_nI hl2 (rj_bl rfl)) ?_
      refine rj_aload_n 0 dX7_lookAtAll_19 rfl rfl ?_
      refine rj_getR (C0 := RX7) (T := TX7) (N := 8) (j := 6) (r := 15) dX7_lookAtAll_20 rfl vX7_lookAtAll_7 rfl (rj_lt hω (k := 8) rfl) (rj_sh hω ly_8) (by decide) kX7_lookAtAll_30 rfl ?_
      refine rj_iload_n 1 dX7_lookAtAll_23 rfl rfl ?_
      refine rj_iconst (v := 0) dX7_lookAtAll_24 rfl (by decide) ?_
      refine rj_iast dX7_lookAtAll_25 rfl (rj_lt hω (k := 15) rfl) (rj_sh hω ly_15) (vp_in_nI hl2 (rj_bl rfl)) ?_
      refine rj_iconst (v := 0) dX7_lookAtAll_26 rfl (by decide) ?_
      refine rj_istore_n (l' := [(2, .int 0), (0, .ref (ω.2.2 8)), (1, .int (nI j2))]) dX7_lookAtAll_27 rfl (rj_bl rfl) rfl ?_
      refine rj_sub (l' := [(0, .ref (ω.2.2 8)), (1, .int (nI j2)), (2, .int (nI 0))]) [1, 2, 0] rfl ?_
      refine lX7_lookAtAll_28 hω μ j2 s2   hl2  16 0 (rj_pi (rj_pi s2 16 (nI j2).toNatClampNeg (fX7_pleasing s2 (nI j2))) 15 (nI j2).toNatClampNeg 0) rfl ?_
      refine rj_iinc (v := nI (j2 + 1)) (l' := [(1, .int (nI (j2 + 1))), (0, .ref (ω.2.2 8)), (2, .int (nI 16))]) 1 dX7_lookAtAll_66 rfl rfl (nI_succ j2).symm (rj_bl rfl) rfl ?_
      refine rj_goto dX7_lookAtAll_69 rfl ?_
      have e : bX7_lookAtAll_2 μ j2 s2 = (rj_fo (bX7_lookAtAll_28 μ j2 s2) 16 0 (rj_pi (rj_pi s2 16 (nI j2).toNatClampNeg (fX7_pleasing s2 (nI j2))) 15 (nI j2).toNatClampNeg 0)) := by unfold bX7_lookAtAll_2; rfl
      exact rj_sub (l' := [(0, .ref (ω.2.2 8)), (1, .int (nI (j2 + 1)))]) [1, 0] rfl (ih (j2 + 1) (rj_fo (bX7_lookAtAll_28 μ j2 s2) 16 0 (rj_pi (rj_pi s2 16 (nI j2).toNatClampNeg (fX7_pleasing s2 (nI j2))) 15 (nI j2).toNatClampNeg 0)) (by omega) (by rw [rj_fo_s, e] at K; exact K))
def mX7_lookAtAll (μ : rj_M) : rj_M := (rj_fo (bX7_lookAtAll_2 μ) 16 0 μ)
set_option maxHeartbeats 4000000 in
set_option maxRecDepth 100000 in
theorem sX7_lookAtAll {g : rj_G} {ω : rj_W} (hω : rj_ok ω) (μ : rj_M)   : rj_Sp g yX7_lookAtAll wsX7_lookAtAll (rj_rm 4 0) [.ref (ω.2.2 8)] ω μ (rj_D (.inl none) ω (mX7_lookAtAll μ)) := by
  refine rj_of' (cc := cX7_lookAtAll) (nL := 3) (ret := none) (own := RX7) (l0 := [(0, .ref (ω.2.2 8))]) rfl (by decide +kernel) rfl (Nat.le_of_ble_eq_true rfl) rfl ?_
  refine rj_iconst (v := 0) dX7_lookAtAll_0 rfl (by decide) ?_
  refine rj_istore_n (l' := [(1, .int 0), (0, .ref (ω.2.2 8))]) dX7_lookAtAll_1 rfl (rj_bl rfl) rfl ?_
  refine rj_sub (l' := [(0, .ref (ω.2.2 8)), (1, .int (nI 0))]) [1, 0] rfl ?_
  refine lX7_lookAtAll_2 hω μ     16 0 μ rfl ?_
  exact rj_vret dX7_lookAtAll_72 rfl (Nat.le_of_ble_eq_true rfl) (Nat.le_of_ble_eq_true rfl) ⟨rfl, rfl, (by unfold mX7_lookAtAll; rfl)⟩
theorem hSX7_sumUp : yX7_sumUp.cls ≠ "java/lang/invoke/MethodHandle" ∧ yX7_sumUp.cls ≠ "java/lang/invoke/VarHandle" ∧ (parseMethodDescriptor yX7_sumUp.desc).map (fun d => d.parameters.length) = some 1 := by decide +kernel
theorem hVX7_sumUp : yX7_sumUp.cls = RX7 ∧ yX7_sumUp.cls ≠ "java/lang/invoke/MethodHandle" ∧ yX7_sumUp.cls ≠ "java/lang/invoke/VarHandle" ∧ (parseMethodDescriptor yX7_sumUp.desc).map (fun d => d.parameters.length) = some 1 := by decide +kernel
theorem vX7_sumUp_7 : ∀ w ∈ u_ws RX7 TX7 8, w ∈ wsX7_sumUp := by decide +kernel
theorem kX7_sumUp_15 : Cond.fieldLink RX7 15 (TX7 1).1 (TX7 1).2.1 (TX7 1).2.2.1 ∈ wsX7_sumUp := by decide +kernel
theorem kX7_sumUp_9 : Cond.fieldLink RX7 9 (TX7 0).1 (TX7 0).2.1 (TX7 0).2.2.1 ∈ wsX7_sumUp := by decide +kernel
def bX7_sumUp_5 (μ : rj_M) (a0 : Int64) (j5 : Nat) (s5 : Int64) : Int64 := (if (fX7_has μ (nI j5)) = 0 then s5 else ((((31) * s5) + ((μ.1 10 (nI j5).toNatClampNeg).toInt64)) + ((10000) * ((μ.1 9 (nI j5).toNatClampNeg).toInt64))))
set_option maxHeartbeats 4000000 in
set_option maxRecDepth 100000 in
theorem lX7_sumUp_5 {g : rj_G} {ω : rj_W} (hω : rj_ok ω) (μ : rj_M) (a0 : Int64)     {F : rj_F} : ∀ (r j : Nat) (s : Int64), j + r = 16 → (rj_R g RX7 cX7_sumUp 6 (some .long) wsX7_sumUp [] (rj_rm 1 0) F 0 ω μ [(0, .ref (ω.2.2 8)), (1, .long a0), (3, .long (rj_fo (bX7_sumUp_5 μ a0) r j s)), (5, .int (nI 16))] 55 []) → rj_R g RX7 cX7_sumUp 6 (some .long) wsX7_sumUp [] (rj_rm 1 0) F 0 ω μ [(0, .ref (ω.2.2 8)), (1, .long a0), (3, .long s), (5, .int (nI j))] 5 [] := by
  intro r
  induction r with
  | zero =>
    intro j s hj K
    have e0 : j = 16 := by omega
    have hge : 16 ≤ nI j := by
      rw [e0]
      exact Int32.le_refl _
    refine rj_iload 3 dX7_sumUp_5 rfl rfl ?_
    refine rj_bipush (v := 16) dX7_sumUp_7 rfl (by decide) ?_
    refine rj_icmp_ge dX7_sumUp_9 rfl rfl (fun h3 => ?_) (fun h3 => ?_)
    · have e1 : nI j = nI 16 := by rw [e0]
      rw [e1]
      exact K
    · exact absurd hge h3
  | succ r ih =>
    intro j5 s5 hj K
    have hl5 : j5 < 16 := by omega
    have hg5 : ¬ 16 ≤ nI j5 := nI_ge hl5 (rj_bl rfl)
    refine rj_iload 3 dX7_sumUp_5 rfl rfl ?_
    refine rj_bipush (v := 16) dX7_sumUp_7 rfl (by decide) ?_
    refine rj_icmp_ge dX7_sumUp_9 rfl rfl (fun h1 => ?_) (fun h1 => ?_)
    · exact absurd h1 hg5
    · refine rj_aload_n 0 dX7_sumUp_12 rfl rfl ?_
      refine rj_iload 3 dX7_sumUp_13 rfl rfl ?_
      refine rj_cV (rest := []) (sX7_has (g := g) (ω := ω) hω μ (nI j5)  ) gX7_sumUp_X7_has (rj_lt hω (k := 8) rfl) (rj_sh hω ly_8) rfl rfl hVX7_has ⟨Nat.le_of_ble_eq_true rfl, Nat.le_of_ble_eq_true rfl⟩ dX7_sumUp_15 rfl rfl rfl (Nat.le_of_ble_eq_true rfl) rfl (Nat.le_of_ble_eq_true rfl) rfl ?_
      refine rj_if_eq dX7_sumUp_18 rfl rfl (fun h2 => ?_) (fun h2 => ?_)
      · refine rj_iinc (v := nI (j5 + 1)) (l' := [(5, .int (nI (j5 + 1))), (0, .ref (ω.2.2 8)), (1, .long a0), (3, .long s5)]) 3 dX7_sumUp_49 rfl rfl (nI_succ j5).symm (rj_bl rfl) rfl ?_
        refine rj_goto dX7_sumUp_52 rfl ?_
        have e : bX7_sumUp_5 μ a0 j5 s5 = s5 := by unfold bX7_sumUp_5; rw [if_pos h2]; try rfl
        exact rj_sub (l' := [(0, .ref (ω.2.2 8)), (1, .long a0), (3, .long s5), (5, .int (nI (j5 + 1)))]) [1, 2, 3, 0] rfl (ih (j5 + 1) s5 (by omega) (by rw [rj_fo_s, e] at K; exact K))
      · refine rj_ldc2 (v := (31)) dX7_sumUp_21 rfl (by decide +kernel) ?_
        refine rj_lload_n 2 dX7_sumUp_24 rfl rfl ?_
        refine rj_lmul dX7_sumUp_25 rfl ?_
        refine rj_aload_n 0 dX7_sumUp_26 rfl rfl ?_
        refine rj_getR (C0 := RX7) (T := TX7) (N := 8) (j := 1) (r := 10) dX7_sumUp_27 rfl vX7_sumUp_7 rfl (rj_lt hω (k := 8) rfl) (rj_sh hω ly_8) (by decide) kX7_sumUp_15 rfl ?_
        refine rj_iload 3 dX7_sumUp_30 rfl rfl ?_
        refine rj_iald dX7_sumUp_32 rfl (rj_lt hω (k := 10) rfl) (rj_sh hω ly_10) (vp_in_nI hl5 (rj_bl rfl)) ?_
        refine rj_i2l dX7_sumUp_33 rfl ?_
        refine rj_ladd dX7_sumUp_34 rfl ?_
        refine rj_ldc2 (v := (10000)) dX7_sumUp_35 rfl (by decide +kernel) ?_
        refine rj_aload_n 0 dX7_sumUp_38 rfl rfl ?_
        refine rj_getR (C0 := RX7) (T := TX7) (N := 8) (j := 0) (r := 9) dX7_sumUp_39 rfl vX7_sumUp_7 rfl (rj_lt hω (k := 8) rfl) (rj_sh hω ly_8) (by decide) kX7_sumUp_9 rfl ?_
        refine rj_iload 3 dX7_sumUp_42 rfl rfl ?_
        refine rj_iald dX7_sumUp_44 rfl (rj_lt hω (k := 9) rfl) (rj_sh hω ly_9) (vp_in_nI hl5 (rj_bl rfl)) ?_
        refine rj_i2l dX7_sumUp_45 rfl ?_
        refine rj_lmul dX7_sumUp_46 rfl ?_
        refine rj_ladd dX7_sumUp_47 rfl ?_
        refine rj_lstore_n (l' := [(3, .long ((((31) * s5) + ((μ.1 10 (nI j5).toNatClampNeg).toInt64)) + ((10000) * ((μ.1 9 (nI j5).toNatClampNeg).toInt64)))), (0, .ref (ω.2.2 8)), (1, .long a0), (5, .int (nI j5))]) dX7_sumUp_48 rfl (rj_bl rfl) rfl ?_
        refine rj_iinc (v := nI (j5 + 1)) (l' := [(5, .int (nI (j5 + 1))), (3, .long ((((31) * s5) + ((μ.1 10 (nI j5).toNatClampNeg).toInt64)) + ((10000) * ((μ.1 9 (nI j5).toNatClampNeg).toInt64)))), (0, .ref (ω.2.2 8)), (1, .long a0)]) 3 dX7_sumUp_49 rfl rfl (nI_succ j5).symm (rj_bl rfl) rfl ?_
        refine rj_goto dX7_sumUp_52 rfl ?_
        have e : bX7_sumUp_5 μ a0 j5 s5 = ((((31) * s5) + ((μ.1 10 (nI j5).toNatClampNeg).toInt64)) + ((10000) * ((μ.1 9 (nI j5).toNatClampNeg).toInt64))) := by unfold bX7_sumUp_5; rw [if_neg h2]; try rfl
        exact rj_sub (l' := [(0, .ref (ω.2.2 8)), (1, .long a0), (3, .long ((((31) * s5) + ((μ.1 10 (nI j5).toNatClampNeg).toInt64)) + ((10000) * ((μ.1 9 (nI j5).toNatClampNeg).toInt64)))), (5, .int (nI (j5 + 1)))]) [2, 3, 1, 0] rfl (ih (j5 + 1) ((((31) * s5) + ((μ.1 10 (nI j5).toNatClampNeg).toInt64)) + ((10000) * ((μ.1 9 (nI j5).toNatClampNeg).toInt64))) (by omega) (by rw [rj_fo_s, e] at K; exact K))
def fX7_sumUp (μ : rj_M) (a0 : Int64) : Int64 := (rj_fo (bX7_sumUp_5 μ a0) 16 0 a0)
set_option maxHeartbeats 4000000 in
set_option maxRecDepth 100000 in
theorem sX7_sumUp {g : rj_G} {ω : rj_W} (hω : rj_ok ω) (μ : rj_M) (a0 : Int64)   : rj_Sp g yX7_sumUp wsX7_sumUp (rj_rm 1 0) [.ref (ω.2.2 8), .long a0] ω μ (rj_D (.inl (some (.long (fX7_sumUp μ a0)))) ω μ) := by
  refine rj_of' (cc := cX7_sumUp) (nL := 6) (ret := (some .long)) (own := RX7) (l0 := [(0, .ref (ω.2.2 8)), (1, .long a0)]) rfl (by decide +kernel) rfl (Nat.le_of_ble_eq_true rfl) rfl ?_
  refine rj_lload_n 1 dX7_sumUp_0 rfl rfl ?_
  refine rj_lstore_n (l' := [(3, .long a0), (0, .ref (ω.2.2 8)), (1, .long a0)]) dX7_sumUp_1 rfl (rj_bl rfl) rfl ?_
  refine rj_iconst (v := 0) dX7_sumUp_2 rfl (by decide) ?_
  refine rj_istore (l' := [(5, .int 0), (3, .long a0), (0, .ref (ω.2.2 8)), (1, .long a0)]) dX7_sumUp_3 rfl (rj_bl rfl) rfl ?_
  refine rj_sub (l' := [(0, .ref (ω.2.2 8)), (1, .long a0), (3, .long a0), (5, .int (nI 0))]) [2, 3, 1, 0] rfl ?_
  refine lX7_sumUp_5 hω μ a0     16 0 a0 rfl ?_
  refine rj_lload_n 2 dX7_sumUp_55 rfl rfl ?_
  exact rj_lret dX7_sumUp_56 rfl (Nat.le_of_ble_eq_true rfl) (Nat.le_of_ble_eq_true rfl) ⟨(by unfold fX7_sumUp; rfl), rfl, rfl⟩
