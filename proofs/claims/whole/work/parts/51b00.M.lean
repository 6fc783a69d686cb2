theorem hSX12_isReached : yX12_isReached.cls ≠ "java/lang/invoke/MethodHandle" ∧ yX12_isReached.cls ≠ "java/lang/invoke/VarHandle" ∧ (parseMethodDescriptor yX12_isReached.desc).map (fun d => d.parameters.length) = some 2 := by decide +kernel
theorem hVX12_isReached : yX12_isReached.cls = RX12 ∧ yX12_isReached.cls ≠ "java/lang/invoke/MethodHandle" ∧ yX12_isReached.cls ≠ "java/lang/invoke/VarHandle" ∧ (parseMethodDescriptor yX12_isReached.desc).map (fun d => d.parameters.length) = some 2 := by decide +kernel
noncomputable def fX12_isReached (μ : rj_M) (a0 : Int32) (a1 : Int32) : Int32 := (if (fX12_its μ a0 2) < ((fX12_endOf μ a1) + (fX12_walkOf μ (fX12_its μ a1 1) (fX12_its μ a0 1))) then 0 else 1)
noncomputable def qX12_isReached (μ : rj_M) (a0 : Int32) (a1 : Int32) : Prop := (vp_in (fX12_its μ a1 1) 4 ∧ vp_in (fX12_its μ a0 1) 4 ∧ qX12_walkOf μ (fX12_its μ a1 1) (fX12_its μ a0 1) ∧ True)
set_option maxHeartbeats 40000000 in
set_option maxRecDepth 100000 in
theorem sX12_isReached {g : rj_G} {ω : rj_W} (hω : rj_ok ω) (μ : rj_M) (a0 : Int32) (a1 : Int32)  (hp_a0 : vp_in a0 16) (hp_a1 : vp_in a1 16)  (hq : qX12_isReached μ a0 a1) : rj_Sp g yX12_isReached wsX12_isReached (rj_rm 2 0) [.ref (ω.2.2 395), .int a0, .int a1] ω μ (rj_D (.inl (some (.int (fX12_isReached μ a0 a1)))) ω μ) := by
  have hqa := hq
  unfold qX12_isReached at hqa
  refine rj_of' (cc := cX12_isReached) (nL := 3) (ret := (some .boolean)) (own := RX12) (l0 := [(0, .ref (ω.2.2 395)), (1, .int a0), (2, .int a1)]) rfl (by decide +kernel) rfl (Nat.le_of_ble_eq_true rfl) rfl ?_
  refine rj_aload_n 0 dX12_isReached_0 rfl rfl ?_
  refine rj_iload_n 1 dX12_isReached_1 rfl rfl ?_
  refine rj_iconst (v := 2) dX12_isReached_2 rfl (by decide) ?_
  refine rj_cV (rest := []) (sX12_its (g := g) (ω := ω) hω μ a0 2  hp_a0 (vp_in_nI (n := 2) (rj_bl rfl) (rj_bl rfl)) ) gX12_isReached_X12_its (rj_lt hω (k := 395) rfl) (rj_sh hω ly_395) rfl rfl hVX12_its ⟨Nat.le_of_ble_eq_true rfl, Nat.le_of_ble_eq_true rfl⟩ dX12_isReached_3 rfl rfl rfl (Nat.le_of_ble_eq_true rfl) rfl (Nat.le_of_ble_eq_true rfl) rfl ?_
  refine rj_aload_n 0 dX12_isReached_6 rfl rfl ?_
  refine rj_iload_n 2 dX12_isReached_7 rfl rfl ?_
  refine rj_cV (rest := [.int (fX12_its μ a0 2)]) (sX12_endOf (g := g) (ω := ω) hω μ a1  hp_a1 ) gX12_isReached_X12_endOf (rj_lt hω (k := 395) rfl) (rj_sh hω ly_395) rfl rfl hVX12_endOf ⟨Nat.le_of_ble_eq_true rfl, Nat.le_of_ble_eq_true rfl⟩ dX12_isReached_8 rfl rfl rfl (Nat.le_of_ble_eq_true rfl) rfl (Nat.le_of_ble_eq_true rfl) rfl ?_
  refine rj_aload_n 0 dX12_isReached_11 rfl rfl ?_
  refine rj_aload_n 0 dX12_isReached_12 rfl rfl ?_
  refine rj_iload_n 2 dX12_isReached_13 rfl rfl ?_
  refine rj_iconst (v := 1) dX12_isReached_14 rfl (by decide) ?_
  refine rj_cV (rest := [.ref (ω.2.2 395), .int (fX12_endOf μ a1), .int (fX12_its μ a0 2)]) (sX12_its (g := g) (ω := ω) hω μ a1 1  hp_a1 (vp_in_nI (n := 1) (rj_bl rfl) (rj_bl rfl)) ) gX12_isReached_X12_its (rj_lt hω (k := 395) rfl) (rj_sh hω ly_395) rfl rfl hVX12_its ⟨Nat.le_of_ble_eq_true rfl, Nat.le_of_ble_eq_true rfl⟩ dX12_isReached_15 rfl rfl rfl (Nat.le_of_ble_eq_true rfl) rfl (Nat.le_of_ble_eq_true rfl) rfl ?_
  refine rj_aload_n 0 dX12_isReached_18 rfl rfl ?_
  refine rj_iload_n 1 dX12_isReached_19 rfl rfl ?_
  refine rj_iconst (v := 1) dX12_isReached_20 rfl (by decide) ?_
  refine rj_cV (rest := [.int (fX12_its μ a1 1), .ref (ω.2.2 395), .int (fX12_endOf μ a1), .int (fX12_its μ a0 2)]) (sX12_its (g := g) (ω := ω) hω μ a0 1  hp_a0 (vp_in_nI (n := 1) (rj_bl rfl) (rj_bl rfl)) ) gX12_isReached_X12_its (rj_lt hω (k := 395) rfl) (rj_sh hω ly_395) rfl rfl hVX12_its ⟨Nat.le_of_ble_eq_true rfl, Nat.le_of_ble_eq_true rfl⟩ dX12_isReached_21 rfl rfl rfl (Nat.le_of_ble_eq_true rfl) rfl (Nat.le_of_ble_eq_true rfl) rfl ?_
  refine rj_cV (rest := [.int (fX12_endOf μ a1), .int (fX12_its μ a0 2)]) (sX12_walkOf (g := g) (ω := ω) hω μ (fX12_its μ a1 1) (fX12_its μ a0 1)  (And.left hqa) (And.left (And.right hqa)) (And.left (And.right (And.right hqa)))) gX12_isReached_X12_walkOf (rj_lt hω (k := 395) rfl) (rj_sh hω ly_395) rfl rfl hVX12_walkOf ⟨Nat.le_of_ble_eq_true rfl, Nat.le_of_ble_eq_true rfl⟩ dX12_isReached_24 rfl rfl rfl (Nat.le_of_ble_eq_true rfl) rfl (Nat.le_of_ble_eq_true rfl) rfl ?_
  refine rj_iadd dX12_isReached_27 rfl ?_
  refine rj_icmp_lt dX12_isReached_28 rfl rfl (fun h1 => ?_) (fun h1 => ?_)
  · skip
    refine rj_iconst (v := 0) dX12_isReached_35 rfl (by decide) ?_
    exact rj_zret dX12_isReached_36 rfl rfl (Nat.le_of_ble_eq_true rfl) (Nat.le_of_ble_eq_true rfl) ⟨(by unfold fX12_isReached; rw [if_pos h1]; try rfl), rfl, rfl⟩
  · skip
    refine rj_iconst (v := 1) dX12_isReached_31 rfl (by decide) ?_
    refine rj_goto dX12_isReached_32 rfl ?_
    exact rj_zret dX12_isReached_36 rfl rfl (Nat.le_of_ble_eq_true rfl) (Nat.le_of_ble_eq_true rfl) ⟨(by unfold fX12_isReached; rw [if_neg h1]; try rfl), rfl, rfl⟩
theorem nX12_isReached (μ : rj_M) (a0 : Int32) (a1 : Int32) : narrow .boolean (.int (fX12_isReached μ a0 a1)) = .int (fX12_isReached μ a0 a1) := by
  unfold fX12_isReached
  split
  · rfl
  · rfl
theorem hSX12_isWished : yX12_isWished.cls ≠ "java/lang/invoke/MethodHandle" ∧ yX12_isWished.cls ≠ "java/lang/invoke/VarHandle" ∧ (parseMethodDescriptor yX12_isWished.desc).map (fun d => d.parameters.length) = some 3 := by decide +kernel
theorem hVX12_isWished : yX12_isWished.cls = RX12 ∧ yX12_isWished.cls ≠ "java/lang/invoke/MethodHandle" ∧ yX12_isWished.cls ≠ "java/lang/invoke/VarHandle" ∧ (parseMethodDescriptor yX12_isWished.desc).map (fun d => d.parameters.length) = some 3 := by decide +kernel
noncomputable def fX12_isWished (μ : rj_M) (a0 : Int32) (a1 : Int32) (a2 : Int32) : Int32 := (if (fX12_isAct μ a2) = 0 then 0 else (if ((fX12_its μ a2 2) / 1440) = a1 then (if (fX12_wishOf μ a0 a2) ≤ 0 then 0 else 1) else 0))
set_option maxHeartbeats 40000000 in
set_option maxRecDepth 100000 in
theorem sX12_isWished {g : rj_G} {ω : rj_W} (hω : rj_ok ω) (μ : rj_M) (a0 : Int32) (a1 : Int32) (a2 : Int32)  (hp_a0 : vp_in a0 12)  : rj_Sp g yX12_isWished wsX12_isWished (rj_rm 2 0) [.ref (ω.2.2 395), .int a0, .int a1, .int a2] ω μ (rj_D (.inl (some (.int (fX12_isWished μ a0 a1 a2)))) ω μ) := by
  refine rj_of' (cc := cX12_isWished) (nL := 4) (ret := (some .boolean)) (own := RX12) (l0 := [(0, .ref (ω.2.2 395)), (1, .int a0), (2, .int a1), (3, .int a2)]) rfl (by decide +kernel) rfl (Nat.le_of_ble_eq_true rfl) rfl ?_
  refine rj_aload_n 0 dX12_isWished_0 rfl rfl ?_
  refine rj_iload_n 3 dX12_isWished_1 rfl rfl ?_
  refine rj_cV (rest := []) (sX12_isAct (g := g) (ω := ω) hω μ a2   ) gX12_isWished_X12_isAct (rj_lt hω (k := 395) rfl) (rj_sh hω ly_395) rfl rfl hVX12_isAct ⟨Nat.le_of_ble_eq_true rfl, Nat.le_of_ble_eq_true rfl⟩ dX12_isWished_2 rfl rfl rfl (Nat.le_of_ble_eq_true rfl) rfl (Nat.le_of_ble_eq_true rfl) rfl ?_
  refine rj_if_eq dX12_isWished_5 rfl rfl (fun h1 => ?_) (fun h1 => ?_)
  · refine rj_iconst (v := 0) dX12_isWished_35 rfl (by decide) ?_
    exact rj_zret dX12_isWished_36 rfl rfl (Nat.le_of_ble_eq_true rfl) (Nat.le_of_ble_eq_true rfl) ⟨(by unfold fX12_isWished; rw [if_pos h1]; try rfl), rfl, rfl⟩
  · refine rj_aload_n 0 dX12_isWished_8 rfl rfl ?_
    refine rj_iload_n 3 dX12_isWished_9 rfl rfl ?_
    refine rj_iconst (v := 2) dX12_isWished_10 rfl (by decide) ?_
    refine rj_cV (rest := []) (sX12_its (g := g) (ω := ω) hω μ a2 2  (rj_isAct h1) (vp_in_nI (n := 2) (rj_bl rfl) (rj_bl rfl)) ) gX12_isWished_X12_its (rj_lt hω (k := 395) rfl) (rj_sh hω ly_395) rfl rfl hVX12_its ⟨Nat.le_of_ble_eq_true rfl, Nat.le_of_ble_eq_true rfl⟩ dX12_isWished_11 rfl rfl rfl (Nat.le_of_ble_eq_true rfl) rfl (Nat.le_of_ble_eq_true rfl) rfl ?_
    refine rj_sipush (v := 1440) dX12_isWished_14 rfl (by decide) ?_
    refine rj_idiv dX12_isWished_17 rfl (by decide) ?_
    refine rj_iload_n 2 dX12_isWished_18 rfl rfl ?_
    refine rj_icmp_ne dX12_isWished_19 rfl rfl (fun h2 => ?_) (fun h2 => ?_)
    · refine rj_iconst (v := 0) dX12_isWished_35 rfl (by decide) ?_
      exact rj_zret dX12_isWished_36 rfl rfl (Nat.le_of_ble_eq_true rfl) (Nat.le_of_ble_eq_true rfl) ⟨(by unfold fX12_isWished; rw [if_neg h1]; rw [if_neg h2]; try rfl), rfl, rfl⟩
    · refine rj_aload_n 0 dX12_isWished_22 rfl rfl ?_
      refine rj_iload_n 1 dX12_isWished_23 rfl rfl ?_
      refine rj_iload_n 3 dX12_isWished_24 rfl rfl ?_
      refine rj_cV (rest := []) (sX12_wishOf (g := g) (ω := ω) hω μ a0 a2  hp_a0 (rj_isAct h1) ) gX12_isWished_X12_wishOf (rj_lt hω (k := 395) rfl) (rj_sh hω ly_395) rfl rfl hVX12_wishOf ⟨Nat.le_of_ble_eq_true rfl, Nat.le_of_ble_eq_true rfl⟩ dX12_isWished_25 rfl rfl rfl (Nat.le_of_ble_eq_true rfl) rfl (Nat.le_of_ble_eq_true rfl) rfl ?_
      refine rj_if_le dX12_isWished_28 rfl rfl (fun h3 => ?_) (fun h3 => ?_)
      · refine rj_iconst (v := 0) dX12_isWished_35 rfl (by decide) ?_
        exact rj_zret dX12_isWished_36 rfl rfl (Nat.le_of_ble_eq_true rfl) (Nat.le_of_ble_eq_true rfl) ⟨(by unfold fX12_isWished; rw [if_neg h1]; rw [if_pos h2]; rw [if_pos h3]; try rfl), rfl, rfl⟩
      · refine rj_iconst (v := 1) dX12_isWished_31 rfl (by decide) ?_
        refine rj_goto dX12_isWished_32 rfl ?_
        exact rj_zret dX12_isWished_36 rfl rfl (Nat.le_of_ble_eq_true rfl) (Nat.le_of_ble_eq_true rfl) ⟨(by unfold fX12_isWished; rw [if_neg h1]; rw [if_pos h2]; rw [if_neg h3]; try rfl), rfl, rfl⟩
theorem nX12_isWished (μ : rj_M) (a0 : Int32) (a1 : Int32) (a2 : Int32) : narrow .boolean (.int (fX12_isWished μ a0 a1 a2)) = .int (fX12_isWished μ a0 a1 a2) := by
  unfold fX12_isWished
  split
  · rfl
  · split
    · split
      · rfl
      · rfl
    · rfl
