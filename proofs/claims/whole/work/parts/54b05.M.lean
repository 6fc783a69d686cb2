theorem hSX12_ticketAt : yX12_ticketAt.cls ≠ "java/lang/invoke/MethodHandle" ∧ yX12_ticketAt.cls ≠ "java/lang/invoke/VarHandle" ∧ (parseMethodDescriptor yX12_ticketAt.desc).map (fun d => d.parameters.length) = some 2 := by decide +kernel
theorem hVX12_ticketAt : yX12_ticketAt.cls = RX12 ∧ yX12_ticketAt.cls ≠ "java/lang/invoke/MethodHandle" ∧ yX12_ticketAt.cls ≠ "java/lang/invoke/VarHandle" ∧ (parseMethodDescriptor yX12_ticketAt.desc).map (fun d => d.parameters.length) = some 2 := by decide +kernel
theorem vX12_ticketAt_12 : ∀ w ∈ u_ws RX12 TX12 16, w ∈ wsX12_ticketAt := by decide +kernel
theorem kX12_ticketAt_9 : Cond.fieldLink RX12 9 (TX12 1).1 (TX12 1).2.1 (TX12 1).2.2.1 ∈ wsX12_ticketAt := by decide +kernel
noncomputable def fX12_ticketAt (μ : rj_M) (a0 : Int32) (a1 : Int32) : Int32 := (if (fX12_isVisitor μ a0) = 0 then 0 else (if (fX12_isDay μ a1) = 0 then 0 else ((mX12_lacksT μ).1 396 ((452 + (4 * a0)) + a1).toNatClampNeg)))
noncomputable def mX12_ticketAt (μ : rj_M) (a0 : Int32) (a1 : Int32) : rj_M := (if (fX12_isVisitor μ a0) = 0 then (mX12_lacksF μ) else (if (fX12_isDay μ a1) = 0 then (mX12_lacksF μ) else (mX12_lacksT μ)))
set_option maxHeartbeats 40000000 in
set_option maxRecDepth 100000 in
theorem sX12_ticketAt {g : rj_G} {ω : rj_W} (hω : rj_ok ω) (μ : rj_M) (a0 : Int32) (a1 : Int32)   : rj_Sp g yX12_ticketAt wsX12_ticketAt (rj_rm 2 0) [.ref (ω.2.2 395), .int a0, .int a1] ω μ (rj_D (.inl (some (.int (fX12_ticketAt μ a0 a1)))) ω (mX12_ticketAt μ a0 a1)) := by
  refine rj_of' (cc := cX12_ticketAt) (nL := 3) (ret := (some .int)) (own := RX12) (l0 := [(0, .ref (ω.2.2 395)), (1, .int a0), (2, .int a1)]) rfl (by decide +kernel) rfl (Nat.le_of_ble_eq_true rfl) rfl ?_
  refine rj_aload_n 0 dX12_ticketAt_0 rfl rfl ?_
  refine rj_iload_n 1 dX12_ticketAt_1 rfl rfl ?_
  refine rj_cS (rest := [.ref (ω.2.2 395)]) (sX12_isVisitor (g := g) (ω := ω) hω μ a0   ) gX12_ticketAt_X12_isVisitor rfl hSX12_isVisitor ⟨Nat.le_of_ble_eq_true rfl, Nat.le_of_ble_eq_true rfl⟩ dX12_ticketAt_2 rfl rfl rfl (Nat.le_of_ble_eq_true rfl) rfl (Nat.le_of_ble_eq_true rfl) rfl ?_
  refine rj_if_eq dX12_ticketAt_5 rfl rfl (fun h1 => ?_) (fun h1 => ?_)
  · refine rj_iconst (v := 0) dX12_ticketAt_19 rfl (by decide) ?_
    refine rj_cV (rest := []) (sX12_lacksF (g := g) (ω := ω) hω μ   ) gX12_ticketAt_X12_lacks (rj_lt hω (k := 395) rfl) (rj_sh hω ly_395) rfl rfl hVX12_lacks ⟨Nat.le_of_ble_eq_true rfl, Nat.le_of_ble_eq_true rfl⟩ dX12_ticketAt_20 rfl rfl rfl (Nat.le_of_ble_eq_true rfl) rfl (Nat.le_of_ble_eq_true rfl) rfl ?_
    refine rj_if_eq dX12_ticketAt_23 rfl rfl (fun h2 => ?_) (fun h2 => ?_)
    · exact absurd h2 (by decide)
    · refine rj_iconst (v := 0) dX12_ticketAt_26 rfl (by decide) ?_
      refine rj_goto dX12_ticketAt_27 rfl ?_
      exact rj_iret dX12_ticketAt_44 rfl (Nat.le_of_ble_eq_true rfl) (Nat.le_of_ble_eq_true rfl) ⟨(by unfold fX12_ticketAt; rw [if_pos h1]; try rfl), rfl, (by unfold mX12_ticketAt; rw [if_pos h1]; try rfl)⟩
  · refine rj_iload_n 2 dX12_ticketAt_8 rfl rfl ?_
    refine rj_cS (rest := [.ref (ω.2.2 395)]) (sX12_isDay (g := g) (ω := ω) hω μ a1   ) gX12_ticketAt_X12_isDay rfl hSX12_isDay ⟨Nat.le_of_ble_eq_true rfl, Nat.le_of_ble_eq_true rfl⟩ dX12_ticketAt_9 rfl rfl rfl (Nat.le_of_ble_eq_true rfl) rfl (Nat.le_of_ble_eq_true rfl) rfl ?_
    refine rj_if_eq dX12_ticketAt_12 rfl rfl (fun h3 => ?_) (fun h3 => ?_)
    · refine rj_iconst (v := 0) dX12_ticketAt_19 rfl (by decide) ?_
      refine rj_cV (rest := []) (sX12_lacksF (g := g) (ω := ω) hω μ   ) gX12_ticketAt_X12_lacks (rj_lt hω (k := 395) rfl) (rj_sh hω ly_395) rfl rfl hVX12_lacks ⟨Nat.le_of_ble_eq_true rfl, Nat.le_of_ble_eq_true rfl⟩ dX12_ticketAt_20 rfl rfl rfl (Nat.le_of_ble_eq_true rfl) rfl (Nat.le_of_ble_eq_true rfl) rfl ?_
      refine rj_if_eq dX12_ticketAt_23 rfl rfl (fun h4 => ?_) (fun h4 => ?_)
      · exact absurd h4 (by decide)
      · refine rj_iconst (v := 0) dX12_ticketAt_26 rfl (by decide) ?_
        refine rj_goto dX12_ticketAt_27 rfl ?_
        exact rj_iret dX12_ticketAt_44 rfl (Nat.le_of_ble_eq_true rfl) (Nat.le_of_ble_eq_true rfl) ⟨(by unfold fX12_ticketAt; rw [if_neg h1]; rw [if_pos h3]; try rfl), rfl, (by unfold mX12_ticketAt; rw [if_neg h1]; rw [if_pos h3]; try rfl)⟩
    · refine rj_iconst (v := 1) dX12_ticketAt_15 rfl (by decide) ?_
      refine rj_goto dX12_ticketAt_16 rfl ?_
      refine rj_cV (rest := []) (sX12_lacksT (g := g) (ω := ω) hω μ   ) gX12_ticketAt_X12_lacks (rj_lt hω (k := 395) rfl) (rj_sh hω ly_395) rfl rfl hVX12_lacks ⟨Nat.le_of_ble_eq_true rfl, Nat.le_of_ble_eq_true rfl⟩ dX12_ticketAt_20 rfl rfl rfl (Nat.le_of_ble_eq_true rfl) rfl (Nat.le_of_ble_eq_true rfl) rfl ?_
      refine rj_if_eq dX12_ticketAt_23 rfl rfl (fun h5 => ?_) (fun h5 => ?_)
      · refine rj_aload_n 0 dX12_ticketAt_30 rfl rfl ?_
        refine rj_getR (C0 := RX12) (T := TX12) (N := 16) (j := 1) (r := 396) dX12_ticketAt_31 rfl vX12_ticketAt_12 rfl (rj_lt hω (k := 395) rfl) (rj_sh hω ly_395) (by decide) kX12_ticketAt_9 rfl ?_
        refine rj_sipush (v := 452) dX12_ticketAt_34 rfl (by decide) ?_
        refine rj_iconst (v := 4) dX12_ticketAt_37 rfl (by decide) ?_
        refine rj_iload_n 1 dX12_ticketAt_38 rfl rfl ?_
        refine rj_imul dX12_ticketAt_39 rfl ?_
        refine rj_iadd dX12_ticketAt_40 rfl ?_
        refine rj_iload_n 2 dX12_ticketAt_41 rfl rfl ?_
        refine rj_iadd dX12_ticketAt_42 rfl ?_
        refine rj_iald dX12_ticketAt_43 rfl (rj_lt hω (k := 396) rfl) (rj_sh hω ly_396) (rj_vle (rj_vadd (N := 500) (rj_vadd (N := 497) (vp_in_nI (n := 452) (N := 453) (rj_bl rfl) (rj_bl rfl)) (rj_vmul (k := 4) (N := 45) (rj_isVisitor h1) rfl rfl) rfl rfl) (rj_isDay h3) rfl rfl) rfl) ?_
        exact rj_iret dX12_ticketAt_44 rfl (Nat.le_of_ble_eq_true rfl) (Nat.le_of_ble_eq_true rfl) ⟨(by unfold fX12_ticketAt; rw [if_neg h1]; rw [if_neg h3]; try rfl), rfl, (by unfold mX12_ticketAt; rw [if_neg h1]; rw [if_neg h3]; try rfl)⟩
      · exact absurd (by decide) h5
theorem hSX12_balance : yX12_balance.cls ≠ "java/lang/invoke/MethodHandle" ∧ yX12_balance.cls ≠ "java/lang/invoke/VarHandle" ∧ (parseMethodDescriptor yX12_balance.desc).map (fun d => d.parameters.length) = some 2 := by decide +kernel
theorem hVX12_balance : yX12_balance.cls = RX12 ∧ yX12_balance.cls ≠ "java/lang/invoke/MethodHandle" ∧ yX12_balance.cls ≠ "java/lang/invoke/VarHandle" ∧ (parseMethodDescriptor yX12_balance.desc).map (fun d => d.parameters.length) = some 2 := by decide +kernel
theorem vX12_balance_12 : ∀ w ∈ u_ws RX12 TX12 16, w ∈ wsX12_balance := by decide +kernel
theorem kX12_balance_9 : Cond.fieldLink RX12 9 (TX12 1).1 (TX12 1).2.1 (TX12 1).2.2.1 ∈ wsX12_balance := by decide +kernel
noncomputable def fX12_balance (μ : rj_M) (a0 : Int32) (a1 : Int32) : Int64 := (if (fX12_in μ a0 0 2) = 0 then 0 else (if 0 < a0 then (if (fX12_no (mX12_lacksT μ) (fX12_in (mX12_lacksT μ) a1 0 11) 2) = 0 then (if a0 = 0 then ((mX12_no (mX12_lacksT μ) (fX12_in (mX12_lacksT μ) a1 0 11) 2).1 396 (500 + 0 : Int32).toNatClampNeg).toInt64 else (if a0 = 1 then ((mX12_no (mX12_lacksT μ) (fX12_in (mX12_lacksT μ) a1 0 11) 2).1 396 (500 + (1 + a1)).toNatClampNeg).toInt64 else ((mX12_no (mX12_lacksT μ) (fX12_in (mX12_lacksT μ) a1 0 11) 2).1 396 (500 + (13 + a1)).toNatClampNeg).toInt64)) else 0) else (if a1 = 0 then (if (fX12_no (mX12_lacksT μ) (fX12_in (mX12_lacksT μ) a1 0 11) 2) = 0 then (if a0 = 0 then ((mX12_no (mX12_lacksT μ) (fX12_in (mX12_lacksT μ) a1 0 11) 2).1 396 (500 + 0 : Int32).toNatClampNeg).toInt64 else (if a0 = 1 then ((mX12_no (mX12_lacksT μ) (fX12_in (mX12_lacksT μ) a1 0 11) 2).1 396 (500 + (1 + a1)).toNatClampNeg).toInt64 else ((mX12_no (mX12_lacksT μ) (fX12_in (mX12_lacksT μ) a1 0 11) 2).1 396 (500 + (13 + a1)).toNatClampNeg).toInt64)) else 0) else 0)))
noncomputable def mX12_balance (μ : rj_M) (a0 : Int32) (a1 : Int32) : rj_M := (if (fX12_in μ a0 0 2) = 0 then (mX12_lacksF μ) else (if 0 < a0 then (if (fX12_no (mX12_lacksT μ) (fX12_in (mX12_lacksT μ) a1 0 11) 2) = 0 then (if a0 = 0 then (mX12_no (mX12_lacksT μ) (fX12_in (mX12_lacksT μ) a1 0 11) 2) else (if a0 = 1 then (mX12_no (mX12_lacksT μ) (fX12_in (mX12_lacksT μ) a1 0 11) 2) else (mX12_no (mX12_lacksT μ) (fX12_in (mX12_lacksT μ) a1 0 11) 2))) else (mX12_no (mX12_lacksT μ) (fX12_in (mX12_lacksT μ) a1 0 11) 2)) else (if a1 = 0 then (if (fX12_no (mX12_lacksT μ) (fX12_in (mX12_lacksT μ) a1 0 11) 2) = 0 then (if a0 = 0 then (mX12_no (mX12_lacksT μ) (fX12_in (mX12_lacksT μ) a1 0 11) 2) else (if a0 = 1 then (mX12_no (mX12_lacksT μ) (fX12_in (mX12_lacksT μ) a1 0 11) 2) else (mX12_no (mX12_lacksT μ) (fX12_in (mX12_lacksT μ) a1 0 11) 2))) else (mX12_no (mX12_lacksT μ) (fX12_in (mX12_lacksT μ) a1 0 11) 2)) else (mX12_lacksF μ))))
noncomputable def qX12_balance (μ : rj_M) (a0 : Int32) (a1 : Int32) : Prop := ((((fX12_in μ a0 0 2) = 0) → True) ∧ ((¬ ((fX12_in μ a0 0 2) = 0)) → (((0 < a0) → ((((fX12_no (mX12_lacksT μ) (fX12_in (mX12_lacksT μ) a1 0 11) 2) = 0) → (((a0 = 0) → True) ∧ ((¬ (a0 = 0)) → (((a0 = 1) → (vp_in (500 + (1 + a1)) 625 ∧ True)) ∧ ((¬ (a0 = 1)) → (vp_in (500 + (13 + a1)) 625 ∧ True)))))) ∧ ((¬ ((fX12_no (mX12_lacksT μ) (fX12_in (mX12_lacksT μ) a1 0 11) 2) = 0)) → True))) ∧ ((¬ (0 < a0)) → (((a1 = 0) → ((((fX12_no (mX12_lacksT μ) (fX12_in (mX12_lacksT μ) a1 0 11) 2) = 0) → (((a0 = 0) → True) ∧ ((¬ (a0 = 0)) → (((a0 = 1) → (vp_in (500 + (1 + a1)) 625 ∧ True)) ∧ ((¬ (a0 = 1)) → (vp_in (500 + (13 + a1)) 625 ∧ True)))))) ∧ ((¬ ((fX12_no (mX12_lacksT μ) (fX12_in (mX12_lacksT μ) a1 0 11) 2) = 0)) → True))) ∧ ((¬ (a1 = 0)) → True))))))
set_option maxHeartbeats 40000000 in
set_option maxRecDepth 100000 in
theorem sX12_balance {g : rj_G} {ω : rj_W} (hω : rj_ok ω) (μ : rj_M) (a0 : Int32) (a1 : Int32)   (hq : qX12_balance μ a0 a1) : rj_Sp g yX12_balance wsX12_balance (rj_rm 2 0) [.ref (ω.2.2 395), .int a0, .int a1] ω μ (rj_D (.inl (some (.long (fX12_balance μ a0 a1)))) ω (mX12_balance μ a0 a1)) := by
  have hqa := hq
  unfold qX12_balance at hqa
  refine rj_of' (cc := cX12_balance) (nL := 3) (ret := (some .long)) (own := RX12) (l0 := [(0, .ref (ω.2.2 395)), (1, .int a0), (2, .int a1)]) rfl (by decide +kernel) rfl (Nat.le_of_ble_eq_true rfl) rfl ?_
  refine rj_aload_n 0 dX12_balance_0 rfl rfl ?_
  refine rj_iload_n 1 dX12_balance_1 rfl rfl ?_
  refine rj_iconst (v := 0) dX12_balance_2 rfl (by decide) ?_
  refine rj_iconst (v := 2) dX12_balance_3 rfl (by decide) ?_
  refine rj_cS (rest := [.ref (ω.2.2 395)]) (sX12_in (g := g) (ω := ω) hω μ a0 0 2   ) gX12_balance_X12_in rfl hSX12_in ⟨Nat.le_of_ble_eq_true rfl, Nat.le_of_ble_eq_true rfl⟩ dX12_balance_4 rfl rfl rfl (Nat.le_of_ble_eq_true rfl) rfl (Nat.le_of_ble_eq_true rfl) rfl ?_
  refine rj_if_eq dX12_balance_7 rfl rfl (fun h1 => ?_) (fun h1 => ?_)
  · skip
    refine rj_iconst (v := 0) dX12_balance_22 rfl (by decide) ?_
    refine rj_cV (rest := []) (sX12_lacksF (g := g) (ω := ω) hω μ   ) gX12_balance_X12_lacks (rj_lt hω (k := 395) rfl) (rj_sh hω ly_395) rfl rfl hVX12_lacks ⟨Nat.le_of_ble_eq_true rfl, Nat.le_of_ble_eq_true rfl⟩ dX12_balance_23 rfl rfl rfl (Nat.le_of_ble_eq_true rfl) rfl (Nat.le_of_ble_eq_true rfl) rfl ?_
    refine rj_if_ne dX12_balance_26 rfl rfl (fun h2 => ?_) (fun h2 => ?_)
    · refine rj_lconst (v := 0) dX12_balance_44 rfl (by decide) ?_
      exact rj_lret dX12_balance_45 rfl (Nat.le_of_ble_eq_true rfl) (Nat.le_of_ble_eq_true rfl) ⟨(by unfold fX12_balance; rw [if_pos h1]; try rfl), rfl, (by unfold mX12_balance; rw [if_pos h1]; try rfl)⟩
    · exact absurd h2 (by decide)
  · have hq2 := (And.right hqa) h1
    refine rj_iload_n 1 dX12_balance_10 rfl rfl ?_
    refine rj_if_gt dX12_balance_11 rfl rfl (fun h3 => ?_) (fun h3 => ?_)
    · have hq3 := (And.left hq2) h3
      refine rj_iconst (v := 1) dX12_balance_18 rfl (by decide) ?_
      refine rj_goto dX12_balance_19 rfl ?_
      refine rj_cV (rest := []) (sX12_lacksT (g := g) (ω := ω) hω μ   ) gX12_balance_X12_lacks (rj_lt hω (k := 395) rfl) (rj_sh hω ly_395) rfl rfl hVX12_lacks ⟨Nat.le_of_ble_eq_true rfl, Nat.le_of_ble_eq_true rfl⟩ dX12_balance_23 rfl rfl rfl (Nat.le_of_ble_eq_true rfl) rfl (Nat.le_of_ble_eq_true rfl) rfl ?_
      refine rj_if_ne dX12_balance_26 rfl rfl (fun h4 => ?_) (fun h4 => ?_)
      · exact absurd (by decide) h4
      · refine rj_aload_n 0 dX12_balance_29 rfl rfl ?_
        refine rj_iload_n 2 dX12_balance_30 rfl rfl ?_
        refine rj_iconst (v := 0) dX12_balance_31 rfl (by decide) ?_
        refine rj_bipush (v := 11) dX12_balance_32 rfl (by decide) ?_
        refine rj_cS (rest := [.ref (ω.2.2 395)]) (sX12_in (g := g) (ω := ω) hω (mX12_lacksT μ) a1 0 11   ) gX12_balance_X12_in rfl hSX12_in ⟨Nat.le_of_ble_eq_true rfl, Nat.le_of_ble_eq_true rfl⟩ dX12_balance_34 rfl rfl rfl (Nat.le_of_ble_eq_true rfl) rfl (Nat.le_of_ble_eq_true rfl) rfl ?_
        refine rj_iconst (v := 2) dX12_balance_37 rfl (by decide) ?_
        refine rj_cV (rest := []) (sX12_no (g := g) (ω := ω) hω (mX12_lacksT μ) (fX12_in (mX12_lacksT μ) a1 0 11) 2   ) gX12_balance_X12_no (rj_lt hω (k := 395) rfl) (rj_sh hω ly_395) rfl rfl hVX12_no ⟨Nat.le_of_ble_eq_true rfl, Nat.le_of_ble_eq_true rfl⟩ dX12_balance_38 rfl rfl rfl (Nat.le_of_ble_eq_true rfl) rfl (Nat.le_of_ble_eq_true rfl) rfl ?_
        refine rj_if_eq dX12_balance_41 rfl rfl (fun h5 => ?_) (fun h5 => ?_)
        · have hq4 := (And.left hq3) h5
          refine rj_aload_n 0 dX12_balance_46 rfl rfl ?_
          refine rj_getR (C0 := RX12) (T := TX12) (N := 16) (j := 1) (r := 396) dX12_balance_47 rfl vX12_balance_12 rfl (rj_lt hω (k := 395) rfl) (rj_sh hω ly_395) (by decide) kX12_balance_9 rfl ?_
          refine rj_sipush (v := 500) dX12_balance_50 rfl (by decide) ?_
          refine rj_iload_n 1 dX12_balance_53 rfl rfl ?_
          refine rj_if_ne dX12_balance_54 rfl rfl (fun h6 => ?_) (fun h6 => ?_)
          · have hq5 := (And.right hq4) h6
            refine rj_iload_n 1 dX12_balance_61 rfl rfl ?_
            refine rj_iconst (v := 1) dX12_balance_62 rfl (by decide) ?_
            refine rj_icmp_ne dX12_balance_63 rfl rfl (fun h7 => ?_) (fun h7 => ?_)
            · have hq6 := (And.right hq5) h7
              refine rj_bipush (v := 13) dX12_balance_72 rfl (by decide) ?_
              refine rj_iload_n 2 dX12_balance_74 rfl rfl ?_
              refine rj_iadd dX12_balance_75 rfl ?_
              refine rj_iadd dX12_balance_76 rfl ?_
              refine rj_iald dX12_balance_77 rfl (rj_lt hω (k := 396) rfl) (rj_sh hω ly_396) (And.left hq6) ?_
              refine rj_i2l dX12_balance_78 rfl ?_
              exact rj_lret dX12_balance_79 rfl (Nat.le_of_ble_eq_true rfl) (Nat.le_of_ble_eq_true rfl) ⟨(by unfold fX12_balance; rw [if_neg h1]; rw [if_pos h3]; rw [if_pos h5]; rw [if_neg h6]; rw [if_neg h7]; try rfl), rfl, (by unfold mX12_balance; rw [if_neg h1]; rw [if_pos h3]; rw [if_pos h5]; rw [if_neg h6]; rw [if_neg h7]; try rfl)⟩
            · have hq7 := (And.left hq5) h7
              refine rj_iconst (v := 1) dX12_balance_66 rfl (by decide) ?_
              refine rj_iload_n 2 dX12_balance_67 rfl rfl ?_
              refine rj_iadd dX12_balance_68 rfl ?_
              refine rj_goto dX12_balance_69 rfl ?_
              refine rj_iadd dX12_balance_76 rfl ?_
              refine rj_iald dX12_balance_77 rfl (rj_lt hω (k := 396) rfl) (rj_sh hω ly_396) (And.left hq7) ?_
              refine rj_i2l dX12_balance_78 rfl ?_
              exact rj_lret dX12_balance_79 rfl (Nat.le_of_ble_eq_true rfl) (Nat.le_of_ble_eq_true rfl) ⟨(by unfold fX12_balance; rw [if_neg h1]; rw [if_pos h3]; rw [if_pos h5]; rw [if_neg h6]; rw [if_pos h7]; try rfl), rfl, (by unfold mX12_balance; rw [if_neg h1]; rw [if_pos h3]; rw [if_pos h5]; rw [if_neg h6]; rw [if_pos h7]; try rfl)⟩
          · skip
            refine rj_iconst (v := 0) dX12_balance_57 rfl (by decide) ?_
            refine rj_goto dX12_balance_58 rfl ?_
            refine rj_iadd dX12_balance_76 rfl ?_
            refine rj_iald dX12_balance_77 rfl (rj_lt hω (k := 396) rfl) (rj_sh hω ly_396) (rj_vle (rj_vadd (N := 501) (vp_in_nI (n := 500) (N := 501) (rj_bl rfl) (rj_bl rfl)) (vp_in_nI (n := 0) (N := 1) (rj_bl rfl) (rj_bl rfl)) rfl rfl) rfl) ?_
            refine rj_i2l dX12_balance_78 rfl ?_
            exact rj_lret dX12_balance_79 rfl (Nat.le_of_ble_eq_true rfl) (Nat.le_of_ble_eq_true rfl) ⟨(by unfold fX12_balance; rw [if_neg h1]; rw [if_pos h3]; rw [if_pos h5]; rw [if_pos h6]; try rfl), rfl, (by unfold mX12_balance; rw [if_neg h1]; rw [if_pos h3]; rw [if_pos h5]; rw [if_pos h6]; try rfl)⟩
        · skip
          refine rj_lconst (v := 0) dX12_balance_44 rfl (by decide) ?_
          exact rj_lret dX12_balance_45 rfl (Nat.le_of_ble_eq_true rfl) (Nat.le_of_ble_eq_true rfl) ⟨(by unfold fX12_balance; rw [if_neg h1]; rw [if_pos h3]; rw [if_neg h5]; try rfl), rfl, (by unfold mX12_balance; rw [if_neg h1]; rw [if_pos h3]; rw [if_neg h5]; try rfl)⟩
    · have hq10 := (And.right hq2) h3
      refine rj_iload_n 2 dX12_balance_14 rfl rfl ?_
      refine rj_if_ne dX12_balance_15 rfl rfl (fun h8 => ?_) (fun h8 => ?_)
      · skip
        refine rj_iconst (v := 0) dX12_balance_22 rfl (by decide) ?_
        refine rj_cV (rest := []) (sX12_lacksF (g := g) (ω := ω) hω μ   ) gX12_balance_X12_lacks (rj_lt hω (k := 395) rfl) (rj_sh hω ly_395) rfl rfl hVX12_lacks ⟨Nat.le_of_ble_eq_true rfl, Nat.le_of_ble_eq_true rfl⟩ dX12_balance_23 rfl rfl rfl (Nat.le_of_ble_eq_true rfl) rfl (Nat.le_of_ble_eq_true rfl) rfl ?_
        refine rj_if_ne dX12_balance_26 rfl rfl (fun h9 => ?_) (fun h9 => ?_)
        · refine rj_lconst (v := 0) dX12_balance_44 rfl (by decide) ?_
          exact rj_lret dX12_balance_45 rfl (Nat.le_of_ble_eq_true rfl) (Nat.le_of_ble_eq_true rfl) ⟨(by unfold fX12_balance; rw [if_neg h1]; rw [if_neg h3]; rw [if_neg h8]; try rfl), rfl, (by unfold mX12_balance; rw [if_neg h1]; rw [if_neg h3]; rw [if_neg h8]; try rfl)⟩
        · exact absurd h9 (by decide)
      · have hq12 := (And.left hq10) h8
        refine rj_iconst (v := 1) dX12_balance_18 rfl (by decide) ?_
        refine rj_goto dX12_balance_19 rfl ?_
        refine rj_cV (rest := []) (sX12_lacksT (g := g) (ω := ω) hω μ   ) gX12_balance_X12_lacks (rj_lt hω (k := 395) rfl) (rj_sh hω ly_395) rfl rfl hVX12_lacks ⟨Nat.le_of_ble_eq_true rfl, Nat.le_of_ble_eq_true rfl⟩ dX12_balance_23 rfl rfl rfl (Nat.le_of_ble_eq_true rfl) rfl (Nat.le_of_ble_eq_true rfl) rfl ?_
        refine rj_if_ne dX12_balance_26 rfl rfl (fun h10 => ?_) (fun h10 => ?_)
        · exact absurd (by decide) h10
        · refine rj_aload_n 0 dX12_balance_29 rfl rfl ?_
          refine rj_iload_n 2 dX12_balance_30 rfl rfl ?_
          refine rj_iconst (v := 0) dX12_balance_31 rfl (by decide) ?_
          refine rj_bipush (v := 11) dX12_balance_32 rfl (by decide) ?_
          refine rj_cS (rest := [.ref (ω.2.2 395)]) (sX12_in (g := g) (ω := ω) hω (mX12_lacksT μ) a1 0 11   ) gX12_balance_X12_in rfl hSX12_in ⟨Nat.le_of_ble_eq_true rfl, Nat.le_of_ble_eq_true rfl⟩ dX12_balance_34 rfl rfl rfl (Nat.le_of_ble_eq_true rfl) rfl (Nat.le_of_ble_eq_true rfl) rfl ?_
          refine rj_iconst (v := 2) dX12_balance_37 rfl (by decide) ?_
          refine rj_cV (rest := []) (sX12_no (g := g) (ω := ω) hω (mX12_lacksT μ) (fX12_in (mX12_lacksT μ) a1 0 11) 2   ) gX12_balance_X12_no (rj_lt hω (k := 395) rfl) (rj_sh hω ly_395) rfl rfl hVX12_no ⟨Nat.le_of_ble_eq_true rfl, Nat.le_of_ble_eq_true rfl⟩ dX12_balance_38 rfl rfl rfl (Nat.le_of_ble_eq_true rfl) rfl (Nat.le_of_ble_eq_true rfl) rfl ?_
          refine rj_if_eq dX12_balance_41 rfl rfl (fun h11 => ?_) (fun h11 => ?_)
          · have hq13 := (And.left hq12) h11
            refine rj_aload_n 0 dX12_balance_46 rfl rfl ?_
            refine rj_getR (C0 := RX12) (T := TX12) (N := 16) (j := 1) (r := 396) dX12_balance_47 rfl vX12_balance_12 rfl (rj_lt hω (k := 395) rfl) (rj_sh hω ly_395) (by decide) kX12_balance_9 rfl ?_
            refine rj_sipush (v := 500) dX12_balance_50 rfl (by decide) ?_
            refine rj_iload_n 1 dX12_balance_53 rfl rfl ?_
            refine rj_if_ne dX12_balance_54 rfl rfl (fun h12 => ?_) (fun h12 => ?_)
            · have hq14 := (And.right hq13) h12
              refine rj_iload_n 1 dX12_balance_61 rfl rfl ?_
              refine rj_iconst (v := 1) dX12_balance_62 rfl (by decide) ?_
              refine rj_icmp_ne dX12_balance_63 rfl rfl (fun h13 => ?_) (fun h13 => ?_)
              · have hq15 := (And.right hq14) h13
                refine rj_bipush (v := 13) dX12_balance_72 rfl (by decide) ?_
                refine rj_iload_n 2 dX12_balance_74 rfl rfl ?_
                refine rj_iadd dX12_balance_75 rfl ?_
                refine rj_iadd dX12_balance_76 rfl ?_
                refine rj_iald dX12_balance_77 rfl (rj_lt hω (k := 396) rfl) (rj_sh hω ly_396) (And.left hq15) ?_
                refine rj_i2l dX12_balance_78 rfl ?_
                exact rj_lret dX12_balance_79 rfl (Nat.le_of_ble_eq_true rfl) (Nat.le_of_ble_eq_true rfl) ⟨(by unfold fX12_balance; rw [if_neg h1]; rw [if_neg h3]; rw [if_pos h8]; rw [if_pos h11]; rw [if_neg h12]; rw [if_neg h13]; try rfl), rfl, (by unfold mX12_balance; rw [if_neg h1]; rw [if_neg h3]; rw [if_pos h8]; rw [if_pos h11]; rw [if_neg h12]; rw [if_neg h13]; try rfl)⟩
              · have hq16 := (And.left hq14) h13
                refine rj_iconst (v := 1) dX12_balance_66 rfl (by decide) ?_
                refine rj_iload_n 2 dX12_balance_67 rfl rfl ?_
                refine rj_iadd dX12_balance_68 rfl ?_
                refine rj_goto dX12_balance_69 rfl ?_
                refine rj_iadd dX12_balance_76 rfl ?_
                refine rj_iald dX12_balance_77 rfl (rj_lt hω (k := 396) rfl) (rj_sh hω ly_396) (And.left hq16) ?_
                refine rj_i2l dX12_balance_78 rfl ?_
                exact rj_lret dX12_balance_79 rfl (Nat.le_of_ble_eq_true rfl) (Nat.le_of_ble_eq_true rfl) ⟨(by unfold fX12_balance; rw [if_neg h1]; rw [if_neg h3]; rw [if_pos h8]; rw [if_pos h11]; rw [if_neg h12]; rw [if_pos h13]; try rfl), rfl, (by unfold mX12_balance; rw [if_neg h1]; rw [if_neg h3]; rw [if_pos h8]; rw [if_pos h11]; rw [if_neg h12]; rw [if_pos h13]; try rfl)⟩
            · skip
              refine rj_iconst (v := 0) dX12_balance_57 rfl (by decide) ?_
              refine rj_goto dX12_balance_58 rfl ?_
              refine rj_iadd dX12_balance_76 rfl ?_
              refine rj_iald dX12_balance_77 rfl (rj_lt hω (k := 396) rfl) (rj_sh hω ly_396) (rj_vle (rj_vadd (N := 501) (vp_in_nI (n := 500) (N := 501) (rj_bl rfl) (rj_bl rfl)) (vp_in_nI (n := 0) (N := 1) (rj_bl rfl) (rj_bl rfl)) rfl rfl) rfl) ?_
              refine rj_i2l dX12_balance_78 rfl ?_
              exact rj_lret dX12_balance_79 rfl (Nat.le_of_ble_eq_true rfl) (Nat.le_of_ble_eq_true rfl) ⟨(by unfold fX12_balance; rw [if_neg h1]; rw [if_neg h3]; rw [if_pos h8]; rw [if_pos h11]; rw [if_pos h12]; try rfl), rfl, (by unfold mX12_balance; rw [if_neg h1]; rw [if_neg h3]; rw [if_pos h8]; rw [if_pos h11]; rw [if_pos h12]; try rfl)⟩
          · skip
            refine rj_lconst (v := 0) dX12_balance_44 rfl (by decide) ?_
            exact rj_lret dX12_balance_45 rfl (Nat.le_of_ble_eq_true rfl) (Nat.le_of_ble_eq_true rfl) ⟨(by unfold fX12_balance; rw [if_neg h1]; rw [if_neg h3]; rw [if_pos h8]; rw [if_neg h11]; try rfl), rfl, (by unfold mX12_balance; rw [if_neg h1]; rw [if_neg h3]; rw [if_pos h8]; rw [if_neg h11]; try rfl)⟩
