theorem hSX12_pleased : yX12_pleased.cls ≠ "java/lang/invoke/MethodHandle" ∧ yX12_pleased.cls ≠ "java/lang/invoke/VarHandle" ∧ (parseMethodDescriptor yX12_pleased.desc).map (fun d => d.parameters.length) = some 1 := by decide +kernel
theorem hVX12_pleased : yX12_pleased.cls = RX12 ∧ yX12_pleased.cls ≠ "java/lang/invoke/MethodHandle" ∧ yX12_pleased.cls ≠ "java/lang/invoke/VarHandle" ∧ (parseMethodDescriptor yX12_pleased.desc).map (fun d => d.parameters.length) = some 1 := by decide +kernel
theorem vX12_pleased_12 : ∀ w ∈ u_ws RX12 TX12 16, w ∈ wsX12_pleased := by decide +kernel
theorem kX12_pleased_39 : Cond.fieldLink RX12 39 (TX12 0).1 (TX12 0).2.1 (TX12 0).2.2.1 ∈ wsX12_pleased := by decide +kernel
theorem kX12_pleased_124 : Cond.fieldLink RX12 124 (TX12 5).1 (TX12 5).2.1 (TX12 5).2.2.1 ∈ wsX12_pleased := by decide +kernel
noncomputable def fX12_pleased (μ : rj_M) (a0 : Int32) : Int32 := (if a0 = 0 then (if (fX12_lineup (rj_pi μ 395 0 0)) < 0 then 0 else ((mX12_lineup (rj_pi μ 395 0 0)).1 395 5)) else (fX12_bound (rj_pi μ 395 0 0)))
noncomputable def mX12_pleased (μ : rj_M) (a0 : Int32) : rj_M := (if a0 = 0 then (if (fX12_lineup (rj_pi μ 395 0 0)) < 0 then (mX12_lineup (rj_pi μ 395 0 0)) else (mX12_lineup (rj_pi μ 395 0 0))) else (rj_pi μ 395 0 0))
noncomputable def qX12_pleased (μ : rj_M) (a0 : Int32) : Prop := (((a0 = 0) → (qX12_lineup (rj_pi μ 395 0 0) ∧ True)) ∧ ((¬ (a0 = 0)) → (qX12_bound (rj_pi μ 395 0 0) ∧ True)))
set_option maxHeartbeats 40000000 in
set_option maxRecDepth 100000 in
theorem sX12_pleased {g : rj_G} {ω : rj_W} (hω : rj_ok ω) (μ : rj_M) (a0 : Int32)   (hq : qX12_pleased μ a0) : rj_Sp g yX12_pleased wsX12_pleased (rj_rm 23 0) [.ref (ω.2.2 395), .int a0] ω μ (rj_D (.inl (some (.int (fX12_pleased μ a0)))) ω (mX12_pleased μ a0)) := by
  have hqa := hq
  unfold qX12_pleased at hqa
  refine rj_of' (cc := cX12_pleased) (nL := 3) (ret := (some .int)) (own := RX12) (l0 := [(0, .ref (ω.2.2 395)), (1, .int a0)]) rfl (by decide +kernel) rfl (Nat.le_of_ble_eq_true rfl) rfl ?_
  refine rj_aload_n 0 dX12_pleased_0 rfl rfl ?_
  refine rj_iconst (v := 0) dX12_pleased_1 rfl (by decide) ?_
  refine rj_putI (C0 := RX12) (T := TX12) (N := 16) (j := 0) dX12_pleased_2 rfl vX12_pleased_12 rfl (rj_lt hω (k := 395) rfl) (rj_sh hω ly_395) (by decide) kX12_pleased_39 tyX12 tyX12_ok nmX12 rfl rfl rfl rfl ?_
  refine rj_iload_n 1 dX12_pleased_5 rfl rfl ?_
  refine rj_if_eq dX12_pleased_6 rfl rfl (fun h1 => ?_) (fun h1 => ?_)
  · have hq1 := (And.left hqa) h1
    refine rj_aload_n 0 dX12_pleased_14 rfl rfl ?_
    refine rj_cV (rest := []) (sX12_lineup (g := g) (ω := ω) hω (rj_pi μ 395 0 0)   (And.left hq1)) gX12_pleased_X12_lineup (rj_lt hω (k := 395) rfl) (rj_sh hω ly_395) rfl rfl hVX12_lineup ⟨Nat.le_of_ble_eq_true rfl, Nat.le_of_ble_eq_true rfl⟩ dX12_pleased_15 rfl rfl rfl (Nat.le_of_ble_eq_true rfl) rfl (Nat.le_of_ble_eq_true rfl) rfl ?_
    refine rj_istore_n (l' := [(2, .int (fX12_lineup (rj_pi μ 395 0 0))), (0, .ref (ω.2.2 395)), (1, .int a0)]) dX12_pleased_18 rfl (rj_bl rfl) rfl ?_
    refine rj_iload_n 0 dX12_pleased_19 rfl rfl ?_
    refine rj_if_lt dX12_pleased_20 rfl rfl (fun h2 => ?_) (fun h2 => ?_)
    · skip
      refine rj_iconst (v := 0) dX12_pleased_30 rfl (by decide) ?_
      exact rj_iret dX12_pleased_31 rfl (Nat.le_of_ble_eq_true rfl) (Nat.le_of_ble_eq_true rfl) ⟨(by unfold fX12_pleased; rw [if_pos h1]; rw [if_pos h2]; try rfl), rfl, (by unfold mX12_pleased; rw [if_pos h1]; rw [if_pos h2]; try rfl)⟩
    · skip
      refine rj_aload_n 1 dX12_pleased_23 rfl rfl ?_
      refine rj_getI (C0 := RX12) (T := TX12) (N := 16) (j := 5) dX12_pleased_24 rfl vX12_pleased_12 rfl (rj_lt hω (k := 395) rfl) (rj_sh hω ly_395) (by decide) kX12_pleased_124 rfl ?_
      refine rj_goto dX12_pleased_27 rfl ?_
      exact rj_iret dX12_pleased_31 rfl (Nat.le_of_ble_eq_true rfl) (Nat.le_of_ble_eq_true rfl) ⟨(by unfold fX12_pleased; rw [if_pos h1]; rw [if_neg h2]; try rfl), rfl, (by unfold mX12_pleased; rw [if_pos h1]; rw [if_neg h2]; try rfl)⟩
  · have hq4 := (And.right hqa) h1
    refine rj_aload_n 0 dX12_pleased_9 rfl rfl ?_
    refine rj_cV (rest := []) (sX12_bound (g := g) (ω := ω) hω (rj_pi μ 395 0 0)   (And.left hq4)) gX12_pleased_X12_bound (rj_lt hω (k := 395) rfl) (rj_sh hω ly_395) rfl rfl hVX12_bound ⟨Nat.le_of_ble_eq_true rfl, Nat.le_of_ble_eq_true rfl⟩ dX12_pleased_10 rfl rfl rfl (Nat.le_of_ble_eq_true rfl) rfl (Nat.le_of_ble_eq_true rfl) rfl ?_
    exact rj_iret dX12_pleased_13 rfl (Nat.le_of_ble_eq_true rfl) (Nat.le_of_ble_eq_true rfl) ⟨(by unfold fX12_pleased; rw [if_neg h1]; try rfl), rfl, (by unfold mX12_pleased; rw [if_neg h1]; try rfl)⟩
theorem hSX12_actAt : yX12_actAt.cls ≠ "java/lang/invoke/MethodHandle" ∧ yX12_actAt.cls ≠ "java/lang/invoke/VarHandle" ∧ (parseMethodDescriptor yX12_actAt.desc).map (fun d => d.parameters.length) = some 2 := by decide +kernel
theorem hVX12_actAt : yX12_actAt.cls = RX12 ∧ yX12_actAt.cls ≠ "java/lang/invoke/MethodHandle" ∧ yX12_actAt.cls ≠ "java/lang/invoke/VarHandle" ∧ (parseMethodDescriptor yX12_actAt.desc).map (fun d => d.parameters.length) = some 2 := by decide +kernel
noncomputable def fX12_actAt (μ : rj_M) (a0 : Int32) (a1 : Int32) : Int32 := (if (fX12_lacks μ (fX12_isAct μ a0)) = 0 then (if (fX12_no (mX12_lacks μ (fX12_isAct μ a0)) (fX12_in (mX12_lacks μ (fX12_isAct μ a0)) a1 0 6) 2) = 0 then (if 5 ≤ a1 then (if a1 = 5 then (fX12_pleases (mX12_no (mX12_lacks μ (fX12_isAct μ a0)) (fX12_in (mX12_lacks μ (fX12_isAct μ a0)) a1 0 6) 2) a0) else (((fX12_lineup (mX12_no (mX12_lacks μ (fX12_isAct μ a0)) (fX12_in (mX12_lacks μ (fX12_isAct μ a0)) a1 0 6) 2)) >>> (a0 &&& 31)) &&& 1)) else (fX12_its (mX12_no (mX12_lacks μ (fX12_isAct μ a0)) (fX12_in (mX12_lacks μ (fX12_isAct μ a0)) a1 0 6) 2) a0 (1 + a1))) else 0) else 0)
noncomputable def mX12_actAt (μ : rj_M) (a0 : Int32) (a1 : Int32) : rj_M := (if (fX12_lacks μ (fX12_isAct μ a0)) = 0 then (if (fX12_no (mX12_lacks μ (fX12_isAct μ a0)) (fX12_in (mX12_lacks μ (fX12_isAct μ a0)) a1 0 6) 2) = 0 then (if 5 ≤ a1 then (if a1 = 5 then (mX12_no (mX12_lacks μ (fX12_isAct μ a0)) (fX12_in (mX12_lacks μ (fX12_isAct μ a0)) a1 0 6) 2) else (mX12_lineup (mX12_no (mX12_lacks μ (fX12_isAct μ a0)) (fX12_in (mX12_lacks μ (fX12_isAct μ a0)) a1 0 6) 2))) else (mX12_no (mX12_lacks μ (fX12_isAct μ a0)) (fX12_in (mX12_lacks μ (fX12_isAct μ a0)) a1 0 6) 2)) else (mX12_no (mX12_lacks μ (fX12_isAct μ a0)) (fX12_in (mX12_lacks μ (fX12_isAct μ a0)) a1 0 6) 2)) else (mX12_lacks μ (fX12_isAct μ a0)))
noncomputable def qX12_actAt (μ : rj_M) (a0 : Int32) (a1 : Int32) : Prop := ((((fX12_lacks μ (fX12_isAct μ a0)) = 0) → ((((fX12_no (mX12_lacks μ (fX12_isAct μ a0)) (fX12_in (mX12_lacks μ (fX12_isAct μ a0)) a1 0 6) 2) = 0) → (((5 ≤ a1) → (((a1 = 5) → (vp_in a0 16 ∧ True)) ∧ ((¬ (a1 = 5)) → (qX12_lineup (mX12_no (mX12_lacks μ (fX12_isAct μ a0)) (fX12_in (mX12_lacks μ (fX12_isAct μ a0)) a1 0 6) 2) ∧ True)))) ∧ ((¬ (5 ≤ a1)) → (vp_in a0 16 ∧ vp_in (1 + a1) 6 ∧ True)))) ∧ ((¬ ((fX12_no (mX12_lacks μ (fX12_isAct μ a0)) (fX12_in (mX12_lacks μ (fX12_isAct μ a0)) a1 0 6) 2) = 0)) → True))) ∧ ((¬ ((fX12_lacks μ (fX12_isAct μ a0)) = 0)) → True))
set_option maxHeartbeats 40000000 in
set_option maxRecDepth 100000 in
theorem sX12_actAt {g : rj_G} {ω : rj_W} (hω : rj_ok ω) (μ : rj_M) (a0 : Int32) (a1 : Int32)   (hq : qX12_actAt μ a0 a1) : rj_Sp g yX12_actAt wsX12_actAt (rj_rm 23 0) [.ref (ω.2.2 395), .int a0, .int a1] ω μ (rj_D (.inl (some (.int (fX12_actAt μ a0 a1)))) ω (mX12_actAt μ a0 a1)) := by
  have hqa := hq
  unfold qX12_actAt at hqa
  refine rj_of' (cc := cX12_actAt) (nL := 3) (ret := (some .int)) (own := RX12) (l0 := [(0, .ref (ω.2.2 395)), (1, .int a0), (2, .int a1)]) rfl (by decide +kernel) rfl (Nat.le_of_ble_eq_true rfl) rfl ?_
  refine rj_aload_n 0 dX12_actAt_0 rfl rfl ?_
  refine rj_aload_n 0 dX12_actAt_1 rfl rfl ?_
  refine rj_iload_n 1 dX12_actAt_2 rfl rfl ?_
  refine rj_cV (rest := [.ref (ω.2.2 395)]) (sX12_isAct (g := g) (ω := ω) hω μ a0   ) gX12_actAt_X12_isAct (rj_lt hω (k := 395) rfl) (rj_sh hω ly_395) rfl rfl hVX12_isAct ⟨Nat.le_of_ble_eq_true rfl, Nat.le_of_ble_eq_true rfl⟩ dX12_actAt_3 rfl rfl rfl (Nat.le_of_ble_eq_true rfl) rfl (Nat.le_of_ble_eq_true rfl) rfl ?_
  refine rj_cV (rest := []) (sX12_lacks (g := g) (ω := ω) hω μ (fX12_isAct μ a0)   ) gX12_actAt_X12_lacks (rj_lt hω (k := 395) rfl) (rj_sh hω ly_395) rfl rfl hVX12_lacks ⟨Nat.le_of_ble_eq_true rfl, Nat.le_of_ble_eq_true rfl⟩ dX12_actAt_6 rfl rfl rfl (Nat.le_of_ble_eq_true rfl) rfl (Nat.le_of_ble_eq_true rfl) rfl ?_
  refine rj_if_ne dX12_actAt_9 rfl rfl (fun h1 => ?_) (fun h1 => ?_)
  · skip
    refine rj_iconst (v := 0) dX12_actAt_27 rfl (by decide) ?_
    exact rj_iret dX12_actAt_28 rfl (Nat.le_of_ble_eq_true rfl) (Nat.le_of_ble_eq_true rfl) ⟨(by unfold fX12_actAt; rw [if_neg h1]; try rfl), rfl, (by unfold mX12_actAt; rw [if_neg h1]; try rfl)⟩
  · have hq2 := (And.left hqa) h1
    refine rj_aload_n 0 dX12_actAt_12 rfl rfl ?_
    refine rj_iload_n 2 dX12_actAt_13 rfl rfl ?_
    refine rj_iconst (v := 0) dX12_actAt_14 rfl (by decide) ?_
    refine rj_bipush (v := 6) dX12_actAt_15 rfl (by decide) ?_
    refine rj_cS (rest := [.ref (ω.2.2 395)]) (sX12_in (g := g) (ω := ω) hω (mX12_lacks μ (fX12_isAct μ a0)) a1 0 6   ) gX12_actAt_X12_in rfl hSX12_in ⟨Nat.le_of_ble_eq_true rfl, Nat.le_of_ble_eq_true rfl⟩ dX12_actAt_17 rfl rfl rfl (Nat.le_of_ble_eq_true rfl) rfl (Nat.le_of_ble_eq_true rfl) rfl ?_
    refine rj_iconst (v := 2) dX12_actAt_20 rfl (by decide) ?_
    refine rj_cV (rest := []) (sX12_no (g := g) (ω := ω) hω (mX12_lacks μ (fX12_isAct μ a0)) (fX12_in (mX12_lacks μ (fX12_isAct μ a0)) a1 0 6) 2   ) gX12_actAt_X12_no (rj_lt hω (k := 395) rfl) (rj_sh hω ly_395) rfl rfl hVX12_no ⟨Nat.le_of_ble_eq_true rfl, Nat.le_of_ble_eq_true rfl⟩ dX12_actAt_21 rfl rfl rfl (Nat.le_of_ble_eq_true rfl) rfl (Nat.le_of_ble_eq_true rfl) rfl ?_
    refine rj_if_eq dX12_actAt_24 rfl rfl (fun h2 => ?_) (fun h2 => ?_)
    · have hq3 := (And.left hq2) h2
      refine rj_iload_n 2 dX12_actAt_29 rfl rfl ?_
      refine rj_iconst (v := 5) dX12_actAt_30 rfl (by decide) ?_
      refine rj_icmp_ge dX12_actAt_31 rfl rfl (fun h3 => ?_) (fun h3 => ?_)
      · have hq4 := (And.left hq3) h3
        refine rj_iload_n 2 dX12_actAt_45 rfl rfl ?_
        refine rj_iconst (v := 5) dX12_actAt_46 rfl (by decide) ?_
        refine rj_icmp_ne dX12_actAt_47 rfl rfl (fun h4 => ?_) (fun h4 => ?_)
        · have hq5 := (And.right hq4) h4
          refine rj_aload_n 0 dX12_actAt_58 rfl rfl ?_
          refine rj_cV (rest := []) (sX12_lineup (g := g) (ω := ω) hω (mX12_no (mX12_lacks μ (fX12_isAct μ a0)) (fX12_in (mX12_lacks μ (fX12_isAct μ a0)) a1 0 6) 2)   (And.left hq5)) gX12_actAt_X12_lineup (rj_lt hω (k := 395) rfl) (rj_sh hω ly_395) rfl rfl hVX12_lineup ⟨Nat.le_of_ble_eq_true rfl, Nat.le_of_ble_eq_true rfl⟩ dX12_actAt_59 rfl rfl rfl (Nat.le_of_ble_eq_true rfl) rfl (Nat.le_of_ble_eq_true rfl) rfl ?_
          refine rj_iload_n 1 dX12_actAt_62 rfl rfl ?_
          refine rj_ishr dX12_actAt_63 rfl ?_
          refine rj_iconst (v := 1) dX12_actAt_64 rfl (by decide) ?_
          refine rj_iand dX12_actAt_65 rfl ?_
          exact rj_iret dX12_actAt_66 rfl (Nat.le_of_ble_eq_true rfl) (Nat.le_of_ble_eq_true rfl) ⟨(by unfold fX12_actAt; rw [if_pos h1]; rw [if_pos h2]; rw [if_pos h3]; rw [if_neg h4]; try rfl), rfl, (by unfold mX12_actAt; rw [if_pos h1]; rw [if_pos h2]; rw [if_pos h3]; rw [if_neg h4]; try rfl)⟩
        · have hq6 := (And.left hq4) h4
          refine rj_aload_n 0 dX12_actAt_50 rfl rfl ?_
          refine rj_iload_n 1 dX12_actAt_51 rfl rfl ?_
          refine rj_cV (rest := []) (sX12_pleases (g := g) (ω := ω) hω (mX12_no (mX12_lacks μ (fX12_isAct μ a0)) (fX12_in (mX12_lacks μ (fX12_isAct μ a0)) a1 0 6) 2) a0  (And.left hq6) ) gX12_actAt_X12_pleases (rj_lt hω (k := 395) rfl) (rj_sh hω ly_395) rfl rfl hVX12_pleases ⟨Nat.le_of_ble_eq_true rfl, Nat.le_of_ble_eq_true rfl⟩ dX12_actAt_52 rfl rfl rfl (Nat.le_of_ble_eq_true rfl) rfl (Nat.le_of_ble_eq_true rfl) rfl ?_
          refine rj_goto dX12_actAt_55 rfl ?_
          exact rj_iret dX12_actAt_66 rfl (Nat.le_of_ble_eq_true rfl) (Nat.le_of_ble_eq_true rfl) ⟨(by unfold fX12_actAt; rw [if_pos h1]; rw [if_pos h2]; rw [if_pos h3]; rw [if_pos h4]; try rfl), rfl, (by unfold mX12_actAt; rw [if_pos h1]; rw [if_pos h2]; rw [if_pos h3]; rw [if_pos h4]; try rfl)⟩
      · have hq7 := (And.right hq3) h3
        refine rj_aload_n 0 dX12_actAt_34 rfl rfl ?_
        refine rj_iload_n 1 dX12_actAt_35 rfl rfl ?_
        refine rj_iconst (v := 1) dX12_actAt_36 rfl (by decide) ?_
        refine rj_iload_n 2 dX12_actAt_37 rfl rfl ?_
        refine rj_iadd dX12_actAt_38 rfl ?_
        refine rj_cV (rest := []) (sX12_its (g := g) (ω := ω) hω (mX12_no (mX12_lacks μ (fX12_isAct μ a0)) (fX12_in (mX12_lacks μ (fX12_isAct μ a0)) a1 0 6) 2) a0 (1 + a1)  (And.left hq7) (And.left (And.right hq7)) ) gX12_actAt_X12_its (rj_lt hω (k := 395) rfl) (rj_sh hω ly_395) rfl rfl hVX12_its ⟨Nat.le_of_ble_eq_true rfl, Nat.le_of_ble_eq_true rfl⟩ dX12_actAt_39 rfl rfl rfl (Nat.le_of_ble_eq_true rfl) rfl (Nat.le_of_ble_eq_true rfl) rfl ?_
        refine rj_goto dX12_actAt_42 rfl ?_
        exact rj_iret dX12_actAt_66 rfl (Nat.le_of_ble_eq_true rfl) (Nat.le_of_ble_eq_true rfl) ⟨(by unfold fX12_actAt; rw [if_pos h1]; rw [if_pos h2]; rw [if_neg h3]; try rfl), rfl, (by unfold mX12_actAt; rw [if_pos h1]; rw [if_pos h2]; rw [if_neg h3]; try rfl)⟩
    · skip
      refine rj_iconst (v := 0) dX12_actAt_27 rfl (by decide) ?_
      exact rj_iret dX12_actAt_28 rfl (Nat.le_of_ble_eq_true rfl) (Nat.le_of_ble_eq_true rfl) ⟨(by unfold fX12_actAt; rw [if_pos h1]; rw [if_neg h2]; try rfl), rfl, (by unfold mX12_actAt; rw [if_pos h1]; rw [if_neg h2]; try rfl)⟩
