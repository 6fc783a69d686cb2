theorem hSX12_setPrice : yX12_setPrice.cls ≠ "java/lang/invoke/MethodHandle" ∧ yX12_setPrice.cls ≠ "java/lang/invoke/VarHandle" ∧ (parseMethodDescriptor yX12_setPrice.desc).map (fun d => d.parameters.length) = some 2 := by decide +kernel
theorem hVX12_setPrice : yX12_setPrice.cls = RX12 ∧ yX12_setPrice.cls ≠ "java/lang/invoke/MethodHandle" ∧ yX12_setPrice.cls ≠ "java/lang/invoke/VarHandle" ∧ (parseMethodDescriptor yX12_setPrice.desc).map (fun d => d.parameters.length) = some 2 := by decide +kernel
noncomputable def fX12_setPrice (μ : rj_M) (a0 : Int32) (a1 : Int32) : Int32 := (if (fX12_lacks μ (fX12_isDay μ a0)) = 0 then (if (fX12_no (mX12_lacks μ (fX12_isDay μ a0)) (fX12_in (mX12_lacks μ (fX12_isDay μ a0)) a1 0 500) 2) = 0 then (fX12_sets (mX12_no (mX12_lacks μ (fX12_isDay μ a0)) (fX12_in (mX12_lacks μ (fX12_isDay μ a0)) a1 0 500) 2) (448 + a0) a1) else 0) else 0)
noncomputable def mX12_setPrice (μ : rj_M) (a0 : Int32) (a1 : Int32) : rj_M := (if (fX12_lacks μ (fX12_isDay μ a0)) = 0 then (if (fX12_no (mX12_lacks μ (fX12_isDay μ a0)) (fX12_in (mX12_lacks μ (fX12_isDay μ a0)) a1 0 500) 2) = 0 then (mX12_sets (mX12_no (mX12_lacks μ (fX12_isDay μ a0)) (fX12_in (mX12_lacks μ (fX12_isDay μ a0)) a1 0 500) 2) (448 + a0) a1) else (mX12_no (mX12_lacks μ (fX12_isDay μ a0)) (fX12_in (mX12_lacks μ (fX12_isDay μ a0)) a1 0 500) 2)) else (mX12_lacks μ (fX12_isDay μ a0)))
noncomputable def qX12_setPrice (μ : rj_M) (a0 : Int32) (a1 : Int32) : Prop := ((((fX12_lacks μ (fX12_isDay μ a0)) = 0) → ((((fX12_no (mX12_lacks μ (fX12_isDay μ a0)) (fX12_in (mX12_lacks μ (fX12_isDay μ a0)) a1 0 500) 2) = 0) → (vp_in (448 + a0) 625 ∧ qX12_sets (mX12_no (mX12_lacks μ (fX12_isDay μ a0)) (fX12_in (mX12_lacks μ (fX12_isDay μ a0)) a1 0 500) 2) (448 + a0) a1 ∧ True)) ∧ ((¬ ((fX12_no (mX12_lacks μ (fX12_isDay μ a0)) (fX12_in (mX12_lacks μ (fX12_isDay μ a0)) a1 0 500) 2) = 0)) → True))) ∧ ((¬ ((fX12_lacks μ (fX12_isDay μ a0)) = 0)) → True))
set_option maxHeartbeats 40000000 in
set_option maxRecDepth 100000 in
theorem sX12_setPrice {g : rj_G} {ω : rj_W} (hω : rj_ok ω) (μ : rj_M) (a0 : Int32) (a1 : Int32)   (hq : qX12_setPrice μ a0 a1) : rj_Sp g yX12_setPrice wsX12_setPrice (rj_rm 3 0) [.ref (ω.2.2 395), .int a0, .int a1] ω μ (rj_D (.inl (some (.int (fX12_setPrice μ a0 a1)))) ω (mX12_setPrice μ a0 a1)) := by
  have hqa := hq
  unfold qX12_setPrice at hqa
  refine rj_of' (cc := cX12_setPrice) (nL := 3) (ret := (some .int)) (own := RX12) (l0 := [(0, .ref (ω.2.2 395)), (1, .int a0), (2, .int a1)]) rfl (by decide +kernel) rfl (Nat.le_of_ble_eq_true rfl) rfl ?_
  refine rj_aload_n 0 dX12_setPrice_0 rfl rfl ?_
  refine rj_iload_n 1 dX12_setPrice_1 rfl rfl ?_
  refine rj_cS (rest := [.ref (ω.2.2 395)]) (sX12_isDay (g := g) (ω := ω) hω μ a0   ) gX12_setPrice_X12_isDay rfl hSX12_isDay ⟨Nat.le_of_ble_eq_true rfl, Nat.le_of_ble_eq_true rfl⟩ dX12_setPrice_2 rfl rfl rfl (Nat.le_of_ble_eq_true rfl) rfl (Nat.le_of_ble_eq_true rfl) rfl ?_
  refine rj_cV (rest := []) (sX12_lacks (g := g) (ω := ω) hω μ (fX12_isDay μ a0)   ) gX12_setPrice_X12_lacks (rj_lt hω (k := 395) rfl) (rj_sh hω ly_395) rfl rfl hVX12_lacks ⟨Nat.le_of_ble_eq_true rfl, Nat.le_of_ble_eq_true rfl⟩ dX12_setPrice_5 rfl rfl rfl (Nat.le_of_ble_eq_true rfl) rfl (Nat.le_of_ble_eq_true rfl) rfl ?_
  refine rj_if_ne dX12_setPrice_8 rfl rfl (fun h1 => ?_) (fun h1 => ?_)
  · skip
    refine rj_iconst (v := 0) dX12_setPrice_27 rfl (by decide) ?_
    refine rj_goto dX12_setPrice_28 rfl ?_
    exact rj_iret dX12_setPrice_41 rfl (Nat.le_of_ble_eq_true rfl) (Nat.le_of_ble_eq_true rfl) ⟨(by unfold fX12_setPrice; rw [if_neg h1]; try rfl), rfl, (by unfold mX12_setPrice; rw [if_neg h1]; try rfl)⟩
  · have hq2 := (And.left hqa) h1
    refine rj_aload_n 0 dX12_setPrice_11 rfl rfl ?_
    refine rj_iload_n 2 dX12_setPrice_12 rfl rfl ?_
    refine rj_iconst (v := 0) dX12_setPrice_13 rfl (by decide) ?_
    refine rj_sipush (v := 500) dX12_setPrice_14 rfl (by decide) ?_
    refine rj_cS (rest := [.ref (ω.2.2 395)]) (sX12_in (g := g) (ω := ω) hω (mX12_lacks μ (fX12_isDay μ a0)) a1 0 500   ) gX12_setPrice_X12_in rfl hSX12_in ⟨Nat.le_of_ble_eq_true rfl, Nat.le_of_ble_eq_true rfl⟩ dX12_setPrice_17 rfl rfl rfl (Nat.le_of_ble_eq_true rfl) rfl (Nat.le_of_ble_eq_true rfl) rfl ?_
    refine rj_iconst (v := 2) dX12_setPrice_20 rfl (by decide) ?_
    refine rj_cV (rest := []) (sX12_no (g := g) (ω := ω) hω (mX12_lacks μ (fX12_isDay μ a0)) (fX12_in (mX12_lacks μ (fX12_isDay μ a0)) a1 0 500) 2   ) gX12_setPrice_X12_no (rj_lt hω (k := 395) rfl) (rj_sh hω ly_395) rfl rfl hVX12_no ⟨Nat.le_of_ble_eq_true rfl, Nat.le_of_ble_eq_true rfl⟩ dX12_setPrice_21 rfl rfl rfl (Nat.le_of_ble_eq_true rfl) rfl (Nat.le_of_ble_eq_true rfl) rfl ?_
    refine rj_if_eq dX12_setPrice_24 rfl rfl (fun h2 => ?_) (fun h2 => ?_)
    · have hq3 := (And.left hq2) h2
      refine rj_aload_n 0 dX12_setPrice_31 rfl rfl ?_
      refine rj_sipush (v := 448) dX12_setPrice_32 rfl (by decide) ?_
      refine rj_iload_n 1 dX12_setPrice_35 rfl rfl ?_
      refine rj_iadd dX12_setPrice_36 rfl ?_
      refine rj_iload_n 2 dX12_setPrice_37 rfl rfl ?_
      refine rj_cV (rest := []) (sX12_sets (g := g) (ω := ω) hω (mX12_no (mX12_lacks μ (fX12_isDay μ a0)) (fX12_in (mX12_lacks μ (fX12_isDay μ a0)) a1 0 500) 2) (448 + a0) a1  (And.left hq3) (And.left (And.right hq3))) gX12_setPrice_X12_sets (rj_lt hω (k := 395) rfl) (rj_sh hω ly_395) rfl rfl hVX12_sets ⟨Nat.le_of_ble_eq_true rfl, Nat.le_of_ble_eq_true rfl⟩ dX12_setPrice_38 rfl rfl rfl (Nat.le_of_ble_eq_true rfl) rfl (Nat.le_of_ble_eq_true rfl) rfl ?_
      exact rj_iret dX12_setPrice_41 rfl (Nat.le_of_ble_eq_true rfl) (Nat.le_of_ble_eq_true rfl) ⟨(by unfold fX12_setPrice; rw [if_pos h1]; rw [if_pos h2]; try rfl), rfl, (by unfold mX12_setPrice; rw [if_pos h1]; rw [if_pos h2]; try rfl)⟩
    · skip
      refine rj_iconst (v := 0) dX12_setPrice_27 rfl (by decide) ?_
      refine rj_goto dX12_setPrice_28 rfl ?_
      exact rj_iret dX12_setPrice_41 rfl (Nat.le_of_ble_eq_true rfl) (Nat.le_of_ble_eq_true rfl) ⟨(by unfold fX12_setPrice; rw [if_pos h1]; rw [if_neg h2]; try rfl), rfl, (by unfold mX12_setPrice; rw [if_pos h1]; rw [if_neg h2]; try rfl)⟩
theorem hSX12_pays : yX12_pays.cls ≠ "java/lang/invoke/MethodHandle" ∧ yX12_pays.cls ≠ "java/lang/invoke/VarHandle" ∧ (parseMethodDescriptor yX12_pays.desc).map (fun d => d.parameters.length) = some 3 := by decide +kernel
theorem hVX12_pays : yX12_pays.cls = RX12 ∧ yX12_pays.cls ≠ "java/lang/invoke/MethodHandle" ∧ yX12_pays.cls ≠ "java/lang/invoke/VarHandle" ∧ (parseMethodDescriptor yX12_pays.desc).map (fun d => d.parameters.length) = some 3 := by decide +kernel
theorem vX12_pays_12 : ∀ w ∈ u_ws RX12 TX12 16, w ∈ wsX12_pays := by decide +kernel
theorem kX12_pays_9 : Cond.fieldLink RX12 9 (TX12 1).1 (TX12 1).2.1 (TX12 1).2.2.1 ∈ wsX12_pays := by decide +kernel
noncomputable def mX12_pays (μ : rj_M) (a0 : Int32) (a1 : Int32) (a2 : Int32) : rj_M := (rj_pi (rj_pi μ 396 (500 + a0).toNatClampNeg ((μ.1 396 (500 + a0).toNatClampNeg) - a2)) 396 (500 + a1).toNatClampNeg (((rj_pi μ 396 (500 + a0).toNatClampNeg ((μ.1 396 (500 + a0).toNatClampNeg) - a2)).1 396 (500 + a1).toNatClampNeg) + a2))
set_option maxHeartbeats 40000000 in
set_option maxRecDepth 100000 in
theorem sX12_pays {g : rj_G} {ω : rj_W} (hω : rj_ok ω) (μ : rj_M) (a0 : Int32) (a1 : Int32) (a2 : Int32)  (hp_a0 : vp_in a0 25) (hp_a1 : vp_in a1 25)  : rj_Sp g yX12_pays wsX12_pays (rj_rm 0 0) [.ref (ω.2.2 395), .int a0, .int a1, .int a2] ω μ (rj_D (.inl none) ω (mX12_pays μ a0 a1 a2)) := by
  refine rj_of' (cc := cX12_pays) (nL := 4) (ret := none) (own := RX12) (l0 := [(0, .ref (ω.2.2 395)), (1, .int a0), (2, .int a1), (3, .int a2)]) rfl (by decide +kernel) rfl (Nat.le_of_ble_eq_true rfl) rfl ?_
  refine rj_aload_n 0 dX12_pays_0 rfl rfl ?_
  refine rj_getR (C0 := RX12) (T := TX12) (N := 16) (j := 1) (r := 396) dX12_pays_1 rfl vX12_pays_12 rfl (rj_lt hω (k := 395) rfl) (rj_sh hω ly_395) (by decide) kX12_pays_9 rfl ?_
  refine rj_sipush (v := 500) dX12_pays_4 rfl (by decide) ?_
  refine rj_iload_n 1 dX12_pays_7 rfl rfl ?_
  refine rj_iadd dX12_pays_8 rfl ?_
  refine rj_dup2 dX12_pays_9 rfl rfl rfl ?_
  refine rj_iald dX12_pays_10 rfl (rj_lt hω (k := 396) rfl) (rj_sh hω ly_396) (rj_vle (rj_vadd (N := 525) (vp_in_nI (n := 500) (N := 501) (rj_bl rfl) (rj_bl rfl)) hp_a0 rfl rfl) rfl) ?_
  refine rj_iload_n 3 dX12_pays_11 rfl rfl ?_
  refine rj_isub dX12_pays_12 rfl ?_
  refine rj_iast dX12_pays_13 rfl (rj_lt hω (k := 396) rfl) (rj_sh hω ly_396) (rj_vle (rj_vadd (N := 525) (vp_in_nI (n := 500) (N := 501) (rj_bl rfl) (rj_bl rfl)) hp_a0 rfl rfl) rfl) ?_
  refine rj_aload_n 0 dX12_pays_14 rfl rfl ?_
  refine rj_getR (C0 := RX12) (T := TX12) (N := 16) (j := 1) (r := 396) dX12_pays_15 rfl vX12_pays_12 rfl (rj_lt hω (k := 395) rfl) (rj_sh hω ly_395) (by decide) kX12_pays_9 rfl ?_
  refine rj_sipush (v := 500) dX12_pays_18 rfl (by decide) ?_
  refine rj_iload_n 2 dX12_pays_21 rfl rfl ?_
  refine rj_iadd dX12_pays_22 rfl ?_
  refine rj_dup2 dX12_pays_23 rfl rfl rfl ?_
  refine rj_iald dX12_pays_24 rfl (rj_lt hω (k := 396) rfl) (rj_sh hω ly_396) (rj_vle (rj_vadd (N := 525) (vp_in_nI (n := 500) (N := 501) (rj_bl rfl) (rj_bl rfl)) hp_a1 rfl rfl) rfl) ?_
  refine rj_iload_n 3 dX12_pays_25 rfl rfl ?_
  refine rj_iadd dX12_pays_26 rfl ?_
  refine rj_iast dX12_pays_27 rfl (rj_lt hω (k := 396) rfl) (rj_sh hω ly_396) (rj_vle (rj_vadd (N := 525) (vp_in_nI (n := 500) (N := 501) (rj_bl rfl) (rj_bl rfl)) hp_a1 rfl rfl) rfl) ?_
  exact rj_vret dX12_pays_28 rfl (Nat.le_of_ble_eq_true rfl) (Nat.le_of_ble_eq_true rfl) ⟨rfl, rfl, (by unfold mX12_pays; rfl)⟩
