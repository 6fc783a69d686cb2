theorem hSX12_front : yX12_front.cls ≠ "java/lang/invoke/MethodHandle" ∧ yX12_front.cls ≠ "java/lang/invoke/VarHandle" ∧ (parseMethodDescriptor yX12_front.desc).map (fun d => d.parameters.length) = some 2 := by decide +kernel
theorem hVX12_front : yX12_front.cls = RX12 ∧ yX12_front.cls ≠ "java/lang/invoke/MethodHandle" ∧ yX12_front.cls ≠ "java/lang/invoke/VarHandle" ∧ (parseMethodDescriptor yX12_front.desc).map (fun d => d.parameters.length) = some 2 := by decide +kernel
theorem vX12_front_12 : ∀ w ∈ u_ws RX12 TX12 16, w ∈ wsX12_front := by decide +kernel
theorem kX12_front_9 : Cond.fieldLink RX12 9 (TX12 1).1 (TX12 1).2.1 (TX12 1).2.2.1 ∈ wsX12_front := by decide +kernel
noncomputable def fX12_front (μ : rj_M) (a0 : Int32) (a1 : Int32) : Int32 := (if (fX12_lacks μ (fX12_isBar μ a0)) = 0 then (if (fX12_lineOf (mX12_lacks μ (fX12_isBar μ a0)) a0) ≤ 0 then 0 else (if a1 = 0 then (fX12_inLine (mX12_lacks μ (fX12_isBar μ a0)) a0 0) else ((mX12_lacks μ (fX12_isBar μ a0)).1 396 (370 + a0).toNatClampNeg))) else 0)
noncomputable def mX12_front (μ : rj_M) (a0 : Int32) (a1 : Int32) : rj_M := (if (fX12_lacks μ (fX12_isBar μ a0)) = 0 then (if (fX12_lineOf (mX12_lacks μ (fX12_isBar μ a0)) a0) ≤ 0 then (mX12_noF (mX12_lacks μ (fX12_isBar μ a0)) 2) else (if a1 = 0 then (mX12_lacks μ (fX12_isBar μ a0)) else (mX12_lacks μ (fX12_isBar μ a0)))) else (mX12_lacks μ (fX12_isBar μ a0)))
noncomputable def qX12_front (μ : rj_M) (a0 : Int32) (a1 : Int32) : Prop := ((((fX12_lacks μ (fX12_isBar μ a0)) = 0) → (vp_in a0 3 ∧ ((((fX12_lineOf (mX12_lacks μ (fX12_isBar μ a0)) a0) ≤ 0) → True) ∧ ((¬ ((fX12_lineOf (mX12_lacks μ (fX12_isBar μ a0)) a0) ≤ 0)) → (((a1 = 0) → (vp_in a0 3 ∧ True)) ∧ ((¬ (a1 = 0)) → (vp_in (370 + a0) 625 ∧ True))))))) ∧ ((¬ ((fX12_lacks μ (fX12_isBar μ a0)) = 0)) → True))
set_option maxHeartbeats 40000000 in
set_option maxRecDepth 100000 in
theorem sX12_front {g : rj_G} {ω : rj_W} (hω : rj_ok ω) (μ : rj_M) (a0 : Int32) (a1 : Int32)   (hq : qX12_front μ a0 a1) : rj_Sp g yX12_front wsX12_front (rj_rm 2 0) [.ref (ω.2.2 395), .int a0, .int a1] ω μ (rj_D (.inl (some (.int (fX12_front μ a0 a1)))) ω (mX12_front μ a0 a1)) := by
  have hqa := hq
  unfold qX12_front at hqa
  refine rj_of' (cc := cX12_front) (nL := 3) (ret := (some .int)) (own := RX12) (l0 := [(0, .ref (ω.2.2 395)), (1, .int a0), (2, .int a1)]) rfl (by decide +kernel) rfl (Nat.le_of_ble_eq_true rfl) rfl ?_
  refine rj_aload_n 0 dX12_front_0 rfl rfl ?_
  refine rj_iload_n 1 dX12_front_1 rfl rfl ?_
  refine rj_cS (rest := [.ref (ω.2.2 395)]) (sX12_isBar (g := g) (ω := ω) hω μ a0   ) gX12_front_X12_isBar rfl hSX12_isBar ⟨Nat.le_of_ble_eq_true rfl, Nat.le_of_ble_eq_true rfl⟩ dX12_front_2 rfl rfl rfl (Nat.le_of_ble_eq_true rfl) rfl (Nat.le_of_ble_eq_true rfl) rfl ?_
  refine rj_cV (rest := []) (sX12_lacks (g := g) (ω := ω) hω μ (fX12_isBar μ a0)   ) gX12_front_X12_lacks (rj_lt hω (k := 395) rfl) (rj_sh hω ly_395) rfl rfl hVX12_lacks ⟨Nat.le_of_ble_eq_true rfl, Nat.le_of_ble_eq_true rfl⟩ dX12_front_5 rfl rfl rfl (Nat.le_of_ble_eq_true rfl) rfl (Nat.le_of_ble_eq_true rfl) rfl ?_
  refine rj_if_ne dX12_front_8 rfl rfl (fun h1 => ?_) (fun h1 => ?_)
  · skip
    refine rj_iconst (v := 0) dX12_front_32 rfl (by decide) ?_
    refine rj_goto dX12_front_33 rfl ?_
    exact rj_iret dX12_front_59 rfl (Nat.le_of_ble_eq_true rfl) (Nat.le_of_ble_eq_true rfl) ⟨(by unfold fX12_front; rw [if_neg h1]; try rfl), rfl, (by unfold mX12_front; rw [if_neg h1]; try rfl)⟩
  · have hq2 := (And.left hqa) h1
    refine rj_aload_n 0 dX12_front_11 rfl rfl ?_
    refine rj_aload_n 0 dX12_front_12 rfl rfl ?_
    refine rj_iload_n 1 dX12_front_13 rfl rfl ?_
    refine rj_cV (rest := [.ref (ω.2.2 395)]) (sX12_lineOf (g := g) (ω := ω) hω (mX12_lacks μ (fX12_isBar μ a0)) a0  (And.left hq2) ) gX12_front_X12_lineOf (rj_lt hω (k := 395) rfl) (rj_sh hω ly_395) rfl rfl hVX12_lineOf ⟨Nat.le_of_ble_eq_true rfl, Nat.le_of_ble_eq_true rfl⟩ dX12_front_14 rfl rfl rfl (Nat.le_of_ble_eq_true rfl) rfl (Nat.le_of_ble_eq_true rfl) rfl ?_
    refine rj_if_le dX12_front_17 rfl rfl (fun h2 => ?_) (fun h2 => ?_)
    · skip
      refine rj_iconst (v := 0) dX12_front_24 rfl (by decide) ?_
      refine rj_iconst (v := 2) dX12_front_25 rfl (by decide) ?_
      refine rj_cV (rest := []) (sX12_noF (g := g) (ω := ω) hω (mX12_lacks μ (fX12_isBar μ a0)) 2   ) gX12_front_X12_no (rj_lt hω (k := 395) rfl) (rj_sh hω ly_395) rfl rfl hVX12_no ⟨Nat.le_of_ble_eq_true rfl, Nat.le_of_ble_eq_true rfl⟩ dX12_front_26 rfl rfl rfl (Nat.le_of_ble_eq_true rfl) rfl (Nat.le_of_ble_eq_true rfl) rfl ?_
      refine rj_if_eq dX12_front_29 rfl rfl (fun h3 => ?_) (fun h3 => ?_)
      · exact absurd h3 (by decide)
      · refine rj_iconst (v := 0) dX12_front_32 rfl (by decide) ?_
        refine rj_goto dX12_front_33 rfl ?_
        exact rj_iret dX12_front_59 rfl (Nat.le_of_ble_eq_true rfl) (Nat.le_of_ble_eq_true rfl) ⟨(by unfold fX12_front; rw [if_pos h1]; rw [if_pos h2]; try rfl), rfl, (by unfold mX12_front; rw [if_pos h1]; rw [if_pos h2]; try rfl)⟩
    · have hq4 := (And.right (And.right hq2)) h2
      refine rj_iconst (v := 1) dX12_front_20 rfl (by decide) ?_
      refine rj_goto dX12_front_21 rfl ?_
      refine rj_iconst (v := 2) dX12_front_25 rfl (by decide) ?_
      refine rj_cV (rest := []) (sX12_noT (g := g) (ω := ω) hω (mX12_lacks μ (fX12_isBar μ a0)) 2   ) gX12_front_X12_no (rj_lt hω (k := 395) rfl) (rj_sh hω ly_395) rfl rfl hVX12_no ⟨Nat.le_of_ble_eq_true rfl, Nat.le_of_ble_eq_true rfl⟩ dX12_front_26 rfl rfl rfl (Nat.le_of_ble_eq_true rfl) rfl (Nat.le_of_ble_eq_true rfl) rfl ?_
      refine rj_if_eq dX12_front_29 rfl rfl (fun h4 => ?_) (fun h4 => ?_)
      · refine rj_iload_n 2 dX12_front_36 rfl rfl ?_
        refine rj_if_eq dX12_front_37 rfl rfl (fun h5 => ?_) (fun h5 => ?_)
        · have hq5 := (And.left hq4) h5
          refine rj_aload_n 0 dX12_front_53 rfl rfl ?_
          refine rj_iload_n 1 dX12_front_54 rfl rfl ?_
          refine rj_iconst (v := 0) dX12_front_55 rfl (by decide) ?_
          refine rj_cV (rest := []) (sX12_inLine (g := g) (ω := ω) hω (mX12_lacks μ (fX12_isBar μ a0)) a0 0  (And.left hq5) (vp_in_nI (n := 0) (rj_bl rfl) (rj_bl rfl)) ) gX12_front_X12_inLine (rj_lt hω (k := 395) rfl) (rj_sh hω ly_395) rfl rfl hVX12_inLine ⟨Nat.le_of_ble_eq_true rfl, Nat.le_of_ble_eq_true rfl⟩ dX12_front_56 rfl rfl rfl (Nat.le_of_ble_eq_true rfl) rfl (Nat.le_of_ble_eq_true rfl) rfl ?_
          exact rj_iret dX12_front_59 rfl (Nat.le_of_ble_eq_true rfl) (Nat.le_of_ble_eq_true rfl) ⟨(by unfold fX12_front; rw [if_pos h1]; rw [if_neg h2]; rw [if_pos h5]; try rfl), rfl, (by unfold mX12_front; rw [if_pos h1]; rw [if_neg h2]; rw [if_pos h5]; try rfl)⟩
        · have hq6 := (And.right hq4) h5
          refine rj_aload_n 0 dX12_front_40 rfl rfl ?_
          refine rj_getR (C0 := RX12) (T := TX12) (N := 16) (j := 1) (r := 396) dX12_front_41 rfl vX12_front_12 rfl (rj_lt hω (k := 395) rfl) (rj_sh hω ly_395) (by decide) kX12_front_9 rfl ?_
          refine rj_sipush (v := 370) dX12_front_44 rfl (by decide) ?_
          refine rj_iload_n 1 dX12_front_47 rfl rfl ?_
          refine rj_iadd dX12_front_48 rfl ?_
          refine rj_iald dX12_front_49 rfl (rj_lt hω (k := 396) rfl) (rj_sh hω ly_396) (And.left hq6) ?_
          refine rj_goto dX12_front_50 rfl ?_
          exact rj_iret dX12_front_59 rfl (Nat.le_of_ble_eq_true rfl) (Nat.le_of_ble_eq_true rfl) ⟨(by unfold fX12_front; rw [if_pos h1]; rw [if_neg h2]; rw [if_neg h5]; try rfl), rfl, (by unfold mX12_front; rw [if_pos h1]; rw [if_neg h2]; rw [if_neg h5]; try rfl)⟩
      · exact absurd (by decide) h4
theorem hSX12_waitOf : yX12_waitOf.cls ≠ "java/lang/invoke/MethodHandle" ∧ yX12_waitOf.cls ≠ "java/lang/invoke/VarHandle" ∧ (parseMethodDescriptor yX12_waitOf.desc).map (fun d => d.parameters.length) = some 1 := by decide +kernel
theorem hVX12_waitOf : yX12_waitOf.cls = RX12 ∧ yX12_waitOf.cls ≠ "java/lang/invoke/MethodHandle" ∧ yX12_waitOf.cls ≠ "java/lang/invoke/VarHandle" ∧ (parseMethodDescriptor yX12_waitOf.desc).map (fun d => d.parameters.length) = some 1 := by decide +kernel
noncomputable def fX12_waitOf (μ : rj_M) (a0 : Int32) : Int32 := (if (fX12_lacks μ (fX12_isVisitor μ a0)) = 0 then (fX12_waitNow (mX12_lacks μ (fX12_isVisitor μ a0)) a0) else 0)
noncomputable def mX12_waitOf (μ : rj_M) (a0 : Int32) : rj_M := (if (fX12_lacks μ (fX12_isVisitor μ a0)) = 0 then (mX12_lacks μ (fX12_isVisitor μ a0)) else (mX12_lacks μ (fX12_isVisitor μ a0)))
noncomputable def qX12_waitOf (μ : rj_M) (a0 : Int32) : Prop := ((((fX12_lacks μ (fX12_isVisitor μ a0)) = 0) → (qX12_waitNow (mX12_lacks μ (fX12_isVisitor μ a0)) a0 ∧ True)) ∧ ((¬ ((fX12_lacks μ (fX12_isVisitor μ a0)) = 0)) → True))
set_option maxHeartbeats 40000000 in
set_option maxRecDepth 100000 in
theorem sX12_waitOf {g : rj_G} {ω : rj_W} (hω : rj_ok ω) (μ : rj_M) (a0 : Int32)   (hq : qX12_waitOf μ a0) : rj_Sp g yX12_waitOf wsX12_waitOf (rj_rm 3 0) [.ref (ω.2.2 395), .int a0] ω μ (rj_D (.inl (some (.int (fX12_waitOf μ a0)))) ω (mX12_waitOf μ a0)) := by
  have hqa := hq
  unfold qX12_waitOf at hqa
  refine rj_of' (cc := cX12_waitOf) (nL := 2) (ret := (some .int)) (own := RX12) (l0 := [(0, .ref (ω.2.2 395)), (1, .int a0)]) rfl (by decide +kernel) rfl (Nat.le_of_ble_eq_true rfl) rfl ?_
  refine rj_aload_n 0 dX12_waitOf_0 rfl rfl ?_
  refine rj_iload_n 1 dX12_waitOf_1 rfl rfl ?_
  refine rj_cS (rest := [.ref (ω.2.2 395)]) (sX12_isVisitor (g := g) (ω := ω) hω μ a0   ) gX12_waitOf_X12_isVisitor rfl hSX12_isVisitor ⟨Nat.le_of_ble_eq_true rfl, Nat.le_of_ble_eq_true rfl⟩ dX12_waitOf_2 rfl rfl rfl (Nat.le_of_ble_eq_true rfl) rfl (Nat.le_of_ble_eq_true rfl) rfl ?_
  refine rj_cV (rest := []) (sX12_lacks (g := g) (ω := ω) hω μ (fX12_isVisitor μ a0)   ) gX12_waitOf_X12_lacks (rj_lt hω (k := 395) rfl) (rj_sh hω ly_395) rfl rfl hVX12_lacks ⟨Nat.le_of_ble_eq_true rfl, Nat.le_of_ble_eq_true rfl⟩ dX12_waitOf_5 rfl rfl rfl (Nat.le_of_ble_eq_true rfl) rfl (Nat.le_of_ble_eq_true rfl) rfl ?_
  refine rj_if_eq dX12_waitOf_8 rfl rfl (fun h1 => ?_) (fun h1 => ?_)
  · have hq1 := (And.left hqa) h1
    refine rj_aload_n 0 dX12_waitOf_15 rfl rfl ?_
    refine rj_iload_n 1 dX12_waitOf_16 rfl rfl ?_
    refine rj_cV (rest := []) (sX12_waitNow (g := g) (ω := ω) hω (mX12_lacks μ (fX12_isVisitor μ a0)) a0   (And.left hq1)) gX12_waitOf_X12_waitNow (rj_lt hω (k := 395) rfl) (rj_sh hω ly_395) rfl rfl hVX12_waitNow ⟨Nat.le_of_ble_eq_true rfl, Nat.le_of_ble_eq_true rfl⟩ dX12_waitOf_17 rfl rfl rfl (Nat.le_of_ble_eq_true rfl) rfl (Nat.le_of_ble_eq_true rfl) rfl ?_
    exact rj_iret dX12_waitOf_20 rfl (Nat.le_of_ble_eq_true rfl) (Nat.le_of_ble_eq_true rfl) ⟨(by unfold fX12_waitOf; rw [if_pos h1]; try rfl), rfl, (by unfold mX12_waitOf; rw [if_pos h1]; try rfl)⟩
  · skip
    refine rj_iconst (v := 0) dX12_waitOf_11 rfl (by decide) ?_
    refine rj_goto dX12_waitOf_12 rfl ?_
    exact rj_iret dX12_waitOf_20 rfl (Nat.le_of_ble_eq_true rfl) (Nat.le_of_ble_eq_true rfl) ⟨(by unfold fX12_waitOf; rw [if_neg h1]; try rfl), rfl, (by unfold mX12_waitOf; rw [if_neg h1]; try rfl)⟩
