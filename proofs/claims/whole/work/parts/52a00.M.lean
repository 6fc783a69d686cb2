theorem hSX12_setGate : yX12_setGate.cls ≠ "java/lang/invoke/MethodHandle" ∧ yX12_setGate.cls ≠ "java/lang/invoke/VarHandle" ∧ (parseMethodDescriptor yX12_setGate.desc).map (fun d => d.parameters.length) = some 2 := by decide +kernel
theorem hVX12_setGate : yX12_setGate.cls = RX12 ∧ yX12_setGate.cls ≠ "java/lang/invoke/MethodHandle" ∧ yX12_setGate.cls ≠ "java/lang/invoke/VarHandle" ∧ (parseMethodDescriptor yX12_setGate.desc).map (fun d => d.parameters.length) = some 2 := by decide +kernel
noncomputable def fX12_setGate (μ : rj_M) (a0 : Int32) (a1 : Int32) : Int32 := (if (fX12_lacks μ (fX12_isGate μ a0)) = 0 then (if (fX12_no (mX12_lacks μ (fX12_isGate μ a0)) (fX12_in (mX12_lacks μ (fX12_isGate μ a0)) a1 0 50) 2) = 0 then (fX12_sets (mX12_no (mX12_lacks μ (fX12_isGate μ a0)) (fX12_in (mX12_lacks μ (fX12_isGate μ a0)) a1 0 50) 2) (311 + a0) a1) else 0) else 0)
noncomputable def mX12_setGate (μ : rj_M) (a0 : Int32) (a1 : Int32) : rj_M := (if (fX12_lacks μ (fX12_isGate μ a0)) = 0 then (if (fX12_no (mX12_lacks μ (fX12_isGate μ a0)) (fX12_in (mX12_lacks μ (fX12_isGate μ a0)) a1 0 50) 2) = 0 then (mX12_sets (mX12_no (mX12_lacks μ (fX12_isGate μ a0)) (fX12_in (mX12_lacks μ (fX12_isGate μ a0)) a1 0 50) 2) (311 + a0) a1) else (mX12_no (mX12_lacks μ (fX12_isGate μ a0)) (fX12_in (mX12_lacks μ (fX12_isGate μ a0)) a1 0 50) 2)) else (mX12_lacks μ (fX12_isGate μ a0)))
noncomputable def qX12_setGate (μ : rj_M) (a0 : Int32) (a1 : Int32) : Prop := ((((fX12_lacks μ (fX12_isGate μ a0)) = 0) → ((((fX12_no (mX12_lacks μ (fX12_isGate μ a0)) (fX12_in (mX12_lacks μ (fX12_isGate μ a0)) a1 0 50) 2) = 0) → (vp_in (311 + a0) 625 ∧ qX12_sets (mX12_no (mX12_lacks μ (fX12_isGate μ a0)) (fX12_in (mX12_lacks μ (fX12_isGate μ a0)) a1 0 50) 2) (311 + a0) a1 ∧ True)) ∧ ((¬ ((fX12_no (mX12_lacks μ (fX12_isGate μ a0)) (fX12_in (mX12_lacks μ (fX12_isGate μ a0)) a1 0 50) 2) = 0)) → True))) ∧ ((¬ ((fX12_lacks μ (fX12_isGate μ a0)) = 0)) → True))
set_option maxHeartbeats 40000000 in
set_option maxRecDepth 100000 in
theorem sX12_setGate {g : rj_G} {ω : rj_W} (hω : rj_ok ω) (μ : rj_M) (a0 : Int32) (a1 : Int32)   (hq : qX12_setGate μ a0 a1) : rj_Sp g yX12_setGate wsX12_setGate (rj_rm 3 0) [.ref (ω.2.2 395), .int a0, .int a1] ω μ (rj_D (.inl (some (.int (fX12_setGate μ a0 a1)))) ω (mX12_setGate μ a0 a1)) := by
  have hqa := hq
  unfold qX12_setGate at hqa
  refine rj_of' (cc := cX12_setGate) (nL := 3) (ret := (some .int)) (own := RX12) (l0 := [(0, .ref (ω.2.2 395)), (1, .int a0), (2, .int a1)]) rfl (by decide +kernel) rfl (Nat.le_of_ble_eq_true rfl) rfl ?_
  refine rj_aload_n 0 dX12_setGate_0 rfl rfl ?_
  refine rj_iload_n 1 dX12_setGate_1 rfl rfl ?_
  refine rj_cS (rest := [.ref (ω.2.2 395)]) (sX12_isGate (g := g) (ω := ω) hω μ a0   ) gX12_setGate_X12_isGate rfl hSX12_isGate ⟨Nat.le_of_ble_eq_true rfl, Nat.le_of_ble_eq_true rfl⟩ dX12_setGate_2 rfl rfl rfl (Nat.le_of_ble_eq_true rfl) rfl (Nat.le_of_ble_eq_true rfl) rfl ?_
  refine rj_cV (rest := []) (sX12_lacks (g := g) (ω := ω) hω μ (fX12_isGate μ a0)   ) gX12_setGate_X12_lacks (rj_lt hω (k := 395) rfl) (rj_sh hω ly_395) rfl rfl hVX12_lacks ⟨Nat.le_of_ble_eq_true rfl, Nat.le_of_ble_eq_true rfl⟩ dX12_setGate_5 rfl rfl rfl (Nat.le_of_ble_eq_true rfl) rfl (Nat.le_of_ble_eq_true rfl) rfl ?_
  refine rj_if_ne dX12_setGate_8 rfl rfl (fun h1 => ?_) (fun h1 => ?_)
  · skip
    refine rj_iconst (v := 0) dX12_setGate_26 rfl (by decide) ?_
    refine rj_goto dX12_setGate_27 rfl ?_
    exact rj_iret dX12_setGate_40 rfl (Nat.le_of_ble_eq_true rfl) (Nat.le_of_ble_eq_true rfl) ⟨(by unfold fX12_setGate; rw [if_neg h1]; try rfl), rfl, (by unfold mX12_setGate; rw [if_neg h1]; try rfl)⟩
  · have hq2 := (And.left hqa) h1
    refine rj_aload_n 0 dX12_setGate_11 rfl rfl ?_
    refine rj_iload_n 2 dX12_setGate_12 rfl rfl ?_
    refine rj_iconst (v := 0) dX12_setGate_13 rfl (by decide) ?_
    refine rj_bipush (v := 50) dX12_setGate_14 rfl (by decide) ?_
    refine rj_cS (rest := [.ref (ω.2.2 395)]) (sX12_in (g := g) (ω := ω) hω (mX12_lacks μ (fX12_isGate μ a0)) a1 0 50   ) gX12_setGate_X12_in rfl hSX12_in ⟨Nat.le_of_ble_eq_true rfl, Nat.le_of_ble_eq_true rfl⟩ dX12_setGate_16 rfl rfl rfl (Nat.le_of_ble_eq_true rfl) rfl (Nat.le_of_ble_eq_true rfl) rfl ?_
    refine rj_iconst (v := 2) dX12_setGate_19 rfl (by decide) ?_
    refine rj_cV (rest := []) (sX12_no (g := g) (ω := ω) hω (mX12_lacks μ (fX12_isGate μ a0)) (fX12_in (mX12_lacks μ (fX12_isGate μ a0)) a1 0 50) 2   ) gX12_setGate_X12_no (rj_lt hω (k := 395) rfl) (rj_sh hω ly_395) rfl rfl hVX12_no ⟨Nat.le_of_ble_eq_true rfl, Nat.le_of_ble_eq_true rfl⟩ dX12_setGate_20 rfl rfl rfl (Nat.le_of_ble_eq_true rfl) rfl (Nat.le_of_ble_eq_true rfl) rfl ?_
    refine rj_if_eq dX12_setGate_23 rfl rfl (fun h2 => ?_) (fun h2 => ?_)
    · have hq3 := (And.left hq2) h2
      refine rj_aload_n 0 dX12_setGate_30 rfl rfl ?_
      refine rj_sipush (v := 311) dX12_setGate_31 rfl (by decide) ?_
      refine rj_iload_n 1 dX12_setGate_34 rfl rfl ?_
      refine rj_iadd dX12_setGate_35 rfl ?_
      refine rj_iload_n 2 dX12_setGate_36 rfl rfl ?_
      refine rj_cV (rest := []) (sX12_sets (g := g) (ω := ω) hω (mX12_no (mX12_lacks μ (fX12_isGate μ a0)) (fX12_in (mX12_lacks μ (fX12_isGate μ a0)) a1 0 50) 2) (311 + a0) a1  (And.left hq3) (And.left (And.right hq3))) gX12_setGate_X12_sets (rj_lt hω (k := 395) rfl) (rj_sh hω ly_395) rfl rfl hVX12_sets ⟨Nat.le_of_ble_eq_true rfl, Nat.le_of_ble_eq_true rfl⟩ dX12_setGate_37 rfl rfl rfl (Nat.le_of_ble_eq_true rfl) rfl (Nat.le_of_ble_eq_true rfl) rfl ?_
      exact rj_iret dX12_setGate_40 rfl (Nat.le_of_ble_eq_true rfl) (Nat.le_of_ble_eq_true rfl) ⟨(by unfold fX12_setGate; rw [if_pos h1]; rw [if_pos h2]; try rfl), rfl, (by unfold mX12_setGate; rw [if_pos h1]; rw [if_pos h2]; try rfl)⟩
    · skip
      refine rj_iconst (v := 0) dX12_setGate_26 rfl (by decide) ?_
      refine rj_goto dX12_setGate_27 rfl ?_
      exact rj_iret dX12_setGate_40 rfl (Nat.le_of_ble_eq_true rfl) (Nat.le_of_ble_eq_true rfl) ⟨(by unfold fX12_setGate; rw [if_pos h1]; rw [if_neg h2]; try rfl), rfl, (by unfold mX12_setGate; rw [if_pos h1]; rw [if_neg h2]; try rfl)⟩
theorem hSX12_setReach : yX12_setReach.cls ≠ "java/lang/invoke/MethodHandle" ∧ yX12_setReach.cls ≠ "java/lang/invoke/VarHandle" ∧ (parseMethodDescriptor yX12_setReach.desc).map (fun d => d.parameters.length) = some 3 := by decide +kernel
theorem hVX12_setReach : yX12_setReach.cls = RX12 ∧ yX12_setReach.cls ≠ "java/lang/invoke/MethodHandle" ∧ yX12_setReach.cls ≠ "java/lang/invoke/VarHandle" ∧ (parseMethodDescriptor yX12_setReach.desc).map (fun d => d.parameters.length) = some 3 := by decide +kernel
noncomputable def fX12_setReach (μ : rj_M) (a0 : Int32) (a1 : Int32) (a2 : Int32) : Int32 := (if (fX12_isGate μ a0) = 0 then 0 else (if (fX12_isStage μ a1) = 0 then 0 else (if (fX12_no (mX12_lacksT μ) (fX12_in (mX12_lacksT μ) a2 1 30) 2) = 0 then (fX12_sets (mX12_no (mX12_lacksT μ) (fX12_in (mX12_lacksT μ) a2 1 30) 2) ((314 + (4 * a0)) + a1) a2) else 0)))
noncomputable def mX12_setReach (μ : rj_M) (a0 : Int32) (a1 : Int32) (a2 : Int32) : rj_M := (if (fX12_isGate μ a0) = 0 then (mX12_lacksF μ) else (if (fX12_isStage μ a1) = 0 then (mX12_lacksF μ) else (if (fX12_no (mX12_lacksT μ) (fX12_in (mX12_lacksT μ) a2 1 30) 2) = 0 then (mX12_sets (mX12_no (mX12_lacksT μ) (fX12_in (mX12_lacksT μ) a2 1 30) 2) ((314 + (4 * a0)) + a1) a2) else (mX12_no (mX12_lacksT μ) (fX12_in (mX12_lacksT μ) a2 1 30) 2))))
noncomputable def qX12_setReach (μ : rj_M) (a0 : Int32) (a1 : Int32) (a2 : Int32) : Prop := ((((fX12_isGate μ a0) = 0) → True) ∧ ((¬ ((fX12_isGate μ a0) = 0)) → ((((fX12_isStage μ a1) = 0) → True) ∧ ((¬ ((fX12_isStage μ a1) = 0)) → ((((fX12_no (mX12_lacksT μ) (fX12_in (mX12_lacksT μ) a2 1 30) 2) = 0) → (qX12_sets (mX12_no (mX12_lacksT μ) (fX12_in (mX12_lacksT μ) a2 1 30) 2) ((314 + (4 * a0)) + a1) a2 ∧ True)) ∧ ((¬ ((fX12_no (mX12_lacksT μ) (fX12_in (mX12_lacksT μ) a2 1 30) 2) = 0)) → True))))))
set_option maxHeartbeats 40000000 in
set_option maxRecDepth 100000 in
theorem sX12_setReach {g : rj_G} {ω : rj_W} (hω : rj_ok ω) (μ : rj_M) (a0 : Int32) (a1 : Int32) (a2 : Int32)   (hq : qX12_setReach μ a0 a1 a2) : rj_Sp g yX12_setReach wsX12_setReach (rj_rm 3 0) [.ref (ω.2.2 395), .int a0, .int a1, .int a2] ω μ (rj_D (.inl (some (.int (fX12_setReach μ a0 a1 a2)))) ω (mX12_setReach μ a0 a1 a2)) := by
  have hqa := hq
  unfold qX12_setReach at hqa
  refine rj_of' (cc := cX12_setReach) (nL := 4) (ret := (some .int)) (own := RX12) (l0 := [(0, .ref (ω.2.2 395)), (1, .int a0), (2, .int a1), (3, .int a2)]) rfl (by decide +kernel) rfl (Nat.le_of_ble_eq_true rfl) rfl ?_
  refine rj_aload_n 0 dX12_setReach_0 rfl rfl ?_
  refine rj_iload_n 1 dX12_setReach_1 rfl rfl ?_
  refine rj_cS (rest := [.ref (ω.2.2 395)]) (sX12_isGate (g := g) (ω := ω) hω μ a0   ) gX12_setReach_X12_isGate rfl hSX12_isGate ⟨Nat.le_of_ble_eq_true rfl, Nat.le_of_ble_eq_true rfl⟩ dX12_setReach_2 rfl rfl rfl (Nat.le_of_ble_eq_true rfl) rfl (Nat.le_of_ble_eq_true rfl) rfl ?_
  refine rj_if_eq dX12_setReach_5 rfl rfl (fun h1 => ?_) (fun h1 => ?_)
  · skip
    refine rj_iconst (v := 0) dX12_setReach_19 rfl (by decide) ?_
    refine rj_cV (rest := []) (sX12_lacksF (g := g) (ω := ω) hω μ   ) gX12_setReach_X12_lacks (rj_lt hω (k := 395) rfl) (rj_sh hω ly_395) rfl rfl hVX12_lacks ⟨Nat.le_of_ble_eq_true rfl, Nat.le_of_ble_eq_true rfl⟩ dX12_setReach_20 rfl rfl rfl (Nat.le_of_ble_eq_true rfl) rfl (Nat.le_of_ble_eq_true rfl) rfl ?_
    refine rj_if_ne dX12_setReach_23 rfl rfl (fun h2 => ?_) (fun h2 => ?_)
    · refine rj_iconst (v := 0) dX12_setReach_41 rfl (by decide) ?_
      refine rj_goto dX12_setReach_42 rfl ?_
      exact rj_iret dX12_setReach_59 rfl (Nat.le_of_ble_eq_true rfl) (Nat.le_of_ble_eq_true rfl) ⟨(by unfold fX12_setReach; rw [if_pos h1]; try rfl), rfl, (by unfold mX12_setReach; rw [if_pos h1]; try rfl)⟩
    · exact absurd h2 (by decide)
  · have hq2 := (And.right hqa) h1
    refine rj_iload_n 2 dX12_setReach_8 rfl rfl ?_
    refine rj_cS (rest := [.ref (ω.2.2 395)]) (sX12_isStage (g := g) (ω := ω) hω μ a1   ) gX12_setReach_X12_isStage rfl hSX12_isStage ⟨Nat.le_of_ble_eq_true rfl, Nat.le_of_ble_eq_true rfl⟩ dX12_setReach_9 rfl rfl rfl (Nat.le_of_ble_eq_true rfl) rfl (Nat.le_of_ble_eq_true rfl) rfl ?_
    refine rj_if_eq dX12_setReach_12 rfl rfl (fun h3 => ?_) (fun h3 => ?_)
    · skip
      refine rj_iconst (v := 0) dX12_setReach_19 rfl (by decide) ?_
      refine rj_cV (rest := []) (sX12_lacksF (g := g) (ω := ω) hω μ   ) gX12_setReach_X12_lacks (rj_lt hω (k := 395) rfl) (rj_sh hω ly_395) rfl rfl hVX12_lacks ⟨Nat.le_of_ble_eq_true rfl, Nat.le_of_ble_eq_true rfl⟩ dX12_setReach_20 rfl rfl rfl (Nat.le_of_ble_eq_true rfl) rfl (Nat.le_of_ble_eq_true rfl) rfl ?_
      refine rj_if_ne dX12_setReach_23 rfl rfl (fun h4 => ?_) (fun h4 => ?_)
      · refine rj_iconst (v := 0) dX12_setReach_41 rfl (by decide) ?_
        refine rj_goto dX12_setReach_42 rfl ?_
        exact rj_iret dX12_setReach_59 rfl (Nat.le_of_ble_eq_true rfl) (Nat.le_of_ble_eq_true rfl) ⟨(by unfold fX12_setReach; rw [if_neg h1]; rw [if_pos h3]; try rfl), rfl, (by unfold mX12_setReach; rw [if_neg h1]; rw [if_pos h3]; try rfl)⟩
      · exact absurd h4 (by decide)
    · have hq4 := (And.right hq2) h3
      refine rj_iconst (v := 1) dX12_setReach_15 rfl (by decide) ?_
      refine rj_goto dX12_setReach_16 rfl ?_
      refine rj_cV (rest := []) (sX12_lacksT (g := g) (ω := ω) hω μ   ) gX12_setReach_X12_lacks (rj_lt hω (k := 395) rfl) (rj_sh hω ly_395) rfl rfl hVX12_lacks ⟨Nat.le_of_ble_eq_true rfl, Nat.le_of_ble_eq_true rfl⟩ dX12_setReach_20 rfl rfl rfl (Nat.le_of_ble_eq_true rfl) rfl (Nat.le_of_ble_eq_true rfl) rfl ?_
      refine rj_if_ne dX12_setReach_23 rfl rfl (fun h5 => ?_) (fun h5 => ?_)
      · exact absurd (by decide) h5
      · refine rj_aload_n 0 dX12_setReach_26 rfl rfl ?_
        refine rj_iload_n 3 dX12_setReach_27 rfl rfl ?_
        refine rj_iconst (v := 1) dX12_setReach_28 rfl (by decide) ?_
        refine rj_bipush (v := 30) dX12_setReach_29 rfl (by decide) ?_
        refine rj_cS (rest := [.ref (ω.2.2 395)]) (sX12_in (g := g) (ω := ω) hω (mX12_lacksT μ) a2 1 30   ) gX12_setReach_X12_in rfl hSX12_in ⟨Nat.le_of_ble_eq_true rfl, Nat.le_of_ble_eq_true rfl⟩ dX12_setReach_31 rfl rfl rfl (Nat.le_of_ble_eq_true rfl) rfl (Nat.le_of_ble_eq_true rfl) rfl ?_
        refine rj_iconst (v := 2) dX12_setReach_34 rfl (by decide) ?_
        refine rj_cV (rest := []) (sX12_no (g := g) (ω := ω) hω (mX12_lacksT μ) (fX12_in (mX12_lacksT μ) a2 1 30) 2   ) gX12_setReach_X12_no (rj_lt hω (k := 395) rfl) (rj_sh hω ly_395) rfl rfl hVX12_no ⟨Nat.le_of_ble_eq_true rfl, Nat.le_of_ble_eq_true rfl⟩ dX12_setReach_35 rfl rfl rfl (Nat.le_of_ble_eq_true rfl) rfl (Nat.le_of_ble_eq_true rfl) rfl ?_
        refine rj_if_eq dX12_setReach_38 rfl rfl (fun h6 => ?_) (fun h6 => ?_)
        · have hq5 := (And.left hq4) h6
          refine rj_aload_n 0 dX12_setReach_45 rfl rfl ?_
          refine rj_sipush (v := 314) dX12_setReach_46 rfl (by decide) ?_
          refine rj_iconst (v := 4) dX12_setReach_49 rfl (by decide) ?_
          refine rj_iload_n 1 dX12_setReach_50 rfl rfl ?_
          refine rj_imul dX12_setReach_51 rfl ?_
          refine rj_iadd dX12_setReach_52 rfl ?_
          refine rj_iload_n 2 dX12_setReach_53 rfl rfl ?_
          refine rj_iadd dX12_setReach_54 rfl ?_
          refine rj_iload_n 3 dX12_setReach_55 rfl rfl ?_
          refine rj_cV (rest := []) (sX12_sets (g := g) (ω := ω) hω (mX12_no (mX12_lacksT μ) (fX12_in (mX12_lacksT μ) a2 1 30) 2) ((314 + (4 * a0)) + a1) a2  (rj_vle (rj_vadd (N := 326) (rj_vadd (N := 323) (vp_in_nI (n := 314) (N := 315) (rj_bl rfl) (rj_bl rfl)) (rj_vmul (k := 4) (N := 9) (rj_isGate h1) rfl rfl) rfl rfl) (rj_isStage h3) rfl rfl) rfl) (And.left hq5)) gX12_setReach_X12_sets (rj_lt hω (k := 395) rfl) (rj_sh hω ly_395) rfl rfl hVX12_sets ⟨Nat.le_of_ble_eq_true rfl, Nat.le_of_ble_eq_true rfl⟩ dX12_setReach_56 rfl rfl rfl (Nat.le_of_ble_eq_true rfl) rfl (Nat.le_of_ble_eq_true rfl) rfl ?_
          exact rj_iret dX12_setReach_59 rfl (Nat.le_of_ble_eq_true rfl) (Nat.le_of_ble_eq_true rfl) ⟨(by unfold fX12_setReach; rw [if_neg h1]; rw [if_neg h3]; rw [if_pos h6]; try rfl), rfl, (by unfold mX12_setReach; rw [if_neg h1]; rw [if_neg h3]; rw [if_pos h6]; try rfl)⟩
        · skip
          refine rj_iconst (v := 0) dX12_setReach_41 rfl (by decide) ?_
          refine rj_goto dX12_setReach_42 rfl ?_
          exact rj_iret dX12_setReach_59 rfl (Nat.le_of_ble_eq_true rfl) (Nat.le_of_ble_eq_true rfl) ⟨(by unfold fX12_setReach; rw [if_neg h1]; rw [if_neg h3]; rw [if_neg h6]; try rfl), rfl, (by unfold mX12_setReach; rw [if_neg h1]; rw [if_neg h3]; rw [if_neg h6]; try rfl)⟩
