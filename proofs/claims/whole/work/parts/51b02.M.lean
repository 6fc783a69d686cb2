theorem hSX12_evening : yX12_evening.cls ≠ "java/lang/invoke/MethodHandle" ∧ yX12_evening.cls ≠ "java/lang/invoke/VarHandle" ∧ (parseMethodDescriptor yX12_evening.desc).map (fun d => d.parameters.length) = some 2 := by decide +kernel
theorem hVX12_evening : yX12_evening.cls = RX12 ∧ yX12_evening.cls ≠ "java/lang/invoke/MethodHandle" ∧ yX12_evening.cls ≠ "java/lang/invoke/VarHandle" ∧ (parseMethodDescriptor yX12_evening.desc).map (fun d => d.parameters.length) = some 2 := by decide +kernel
noncomputable def fX12_evening (μ : rj_M) (a0 : Int32) (a1 : Int32) : Int32 := (if (fX12_isVisitor μ a0) = 0 then 0 else (if (fX12_isDay μ a1) = 0 then 0 else (fX12_findsEvening (mX12_lacksT μ) a0 a1)))
noncomputable def mX12_evening (μ : rj_M) (a0 : Int32) (a1 : Int32) : rj_M := (if (fX12_isVisitor μ a0) = 0 then (mX12_lacksF μ) else (if (fX12_isDay μ a1) = 0 then (mX12_lacksF μ) else (mX12_findsEvening (mX12_lacksT μ) a0 a1)))
noncomputable def qX12_evening (μ : rj_M) (a0 : Int32) (a1 : Int32) : Prop := ((((fX12_isVisitor μ a0) = 0) → True) ∧ ((¬ ((fX12_isVisitor μ a0) = 0)) → ((((fX12_isDay μ a1) = 0) → True) ∧ ((¬ ((fX12_isDay μ a1) = 0)) → (qX12_findsEvening (mX12_lacksT μ) a0 a1 ∧ True)))))
set_option maxHeartbeats 40000000 in
set_option maxRecDepth 100000 in
theorem sX12_evening {g : rj_G} {ω : rj_W} (hω : rj_ok ω) (μ : rj_M) (a0 : Int32) (a1 : Int32)   (hq : qX12_evening μ a0 a1) : rj_Sp g yX12_evening wsX12_evening (rj_rm 5 0) [.ref (ω.2.2 395), .int a0, .int a1] ω μ (rj_D (.inl (some (.int (fX12_evening μ a0 a1)))) ω (mX12_evening μ a0 a1)) := by
  have hqa := hq
  unfold qX12_evening at hqa
  refine rj_of' (cc := cX12_evening) (nL := 3) (ret := (some .int)) (own := RX12) (l0 := [(0, .ref (ω.2.2 395)), (1, .int a0), (2, .int a1)]) rfl (by decide +kernel) rfl (Nat.le_of_ble_eq_true rfl) rfl ?_
  refine rj_aload_n 0 dX12_evening_0 rfl rfl ?_
  refine rj_iload_n 1 dX12_evening_1 rfl rfl ?_
  refine rj_cS (rest := [.ref (ω.2.2 395)]) (sX12_isVisitor (g := g) (ω := ω) hω μ a0   ) gX12_evening_X12_isVisitor rfl hSX12_isVisitor ⟨Nat.le_of_ble_eq_true rfl, Nat.le_of_ble_eq_true rfl⟩ dX12_evening_2 rfl rfl rfl (Nat.le_of_ble_eq_true rfl) rfl (Nat.le_of_ble_eq_true rfl) rfl ?_
  refine rj_if_eq dX12_evening_5 rfl rfl (fun h1 => ?_) (fun h1 => ?_)
  · skip
    refine rj_iconst (v := 0) dX12_evening_19 rfl (by decide) ?_
    refine rj_cV (rest := []) (sX12_lacksF (g := g) (ω := ω) hω μ   ) gX12_evening_X12_lacks (rj_lt hω (k := 395) rfl) (rj_sh hω ly_395) rfl rfl hVX12_lacks ⟨Nat.le_of_ble_eq_true rfl, Nat.le_of_ble_eq_true rfl⟩ dX12_evening_20 rfl rfl rfl (Nat.le_of_ble_eq_true rfl) rfl (Nat.le_of_ble_eq_true rfl) rfl ?_
    refine rj_if_eq dX12_evening_23 rfl rfl (fun h2 => ?_) (fun h2 => ?_)
    · exact absurd h2 (by decide)
    · refine rj_iconst (v := 0) dX12_evening_26 rfl (by decide) ?_
      refine rj_goto dX12_evening_27 rfl ?_
      exact rj_iret dX12_evening_36 rfl (Nat.le_of_ble_eq_true rfl) (Nat.le_of_ble_eq_true rfl) ⟨(by unfold fX12_evening; rw [if_pos h1]; try rfl), rfl, (by unfold mX12_evening; rw [if_pos h1]; try rfl)⟩
  · have hq2 := (And.right hqa) h1
    refine rj_iload_n 2 dX12_evening_8 rfl rfl ?_
    refine rj_cS (rest := [.ref (ω.2.2 395)]) (sX12_isDay (g := g) (ω := ω) hω μ a1   ) gX12_evening_X12_isDay rfl hSX12_isDay ⟨Nat.le_of_ble_eq_true rfl, Nat.le_of_ble_eq_true rfl⟩ dX12_evening_9 rfl rfl rfl (Nat.le_of_ble_eq_true rfl) rfl (Nat.le_of_ble_eq_true rfl) rfl ?_
    refine rj_if_eq dX12_evening_12 rfl rfl (fun h3 => ?_) (fun h3 => ?_)
    · skip
      refine rj_iconst (v := 0) dX12_evening_19 rfl (by decide) ?_
      refine rj_cV (rest := []) (sX12_lacksF (g := g) (ω := ω) hω μ   ) gX12_evening_X12_lacks (rj_lt hω (k := 395) rfl) (rj_sh hω ly_395) rfl rfl hVX12_lacks ⟨Nat.le_of_ble_eq_true rfl, Nat.le_of_ble_eq_true rfl⟩ dX12_evening_20 rfl rfl rfl (Nat.le_of_ble_eq_true rfl) rfl (Nat.le_of_ble_eq_true rfl) rfl ?_
      refine rj_if_eq dX12_evening_23 rfl rfl (fun h4 => ?_) (fun h4 => ?_)
      · exact absurd h4 (by decide)
      · refine rj_iconst (v := 0) dX12_evening_26 rfl (by decide) ?_
        refine rj_goto dX12_evening_27 rfl ?_
        exact rj_iret dX12_evening_36 rfl (Nat.le_of_ble_eq_true rfl) (Nat.le_of_ble_eq_true rfl) ⟨(by unfold fX12_evening; rw [if_neg h1]; rw [if_pos h3]; try rfl), rfl, (by unfold mX12_evening; rw [if_neg h1]; rw [if_pos h3]; try rfl)⟩
    · have hq4 := (And.right hq2) h3
      refine rj_iconst (v := 1) dX12_evening_15 rfl (by decide) ?_
      refine rj_goto dX12_evening_16 rfl ?_
      refine rj_cV (rest := []) (sX12_lacksT (g := g) (ω := ω) hω μ   ) gX12_evening_X12_lacks (rj_lt hω (k := 395) rfl) (rj_sh hω ly_395) rfl rfl hVX12_lacks ⟨Nat.le_of_ble_eq_true rfl, Nat.le_of_ble_eq_true rfl⟩ dX12_evening_20 rfl rfl rfl (Nat.le_of_ble_eq_true rfl) rfl (Nat.le_of_ble_eq_true rfl) rfl ?_
      refine rj_if_eq dX12_evening_23 rfl rfl (fun h5 => ?_) (fun h5 => ?_)
      · refine rj_aload_n 0 dX12_evening_30 rfl rfl ?_
        refine rj_iload_n 1 dX12_evening_31 rfl rfl ?_
        refine rj_iload_n 2 dX12_evening_32 rfl rfl ?_
        refine rj_cV (rest := []) (sX12_findsEvening (g := g) (ω := ω) hω (mX12_lacksT μ) a0 a1  (rj_isVisitor h1) (And.left hq4)) gX12_evening_X12_findsEvening (rj_lt hω (k := 395) rfl) (rj_sh hω ly_395) rfl rfl hVX12_findsEvening ⟨Nat.le_of_ble_eq_true rfl, Nat.le_of_ble_eq_true rfl⟩ dX12_evening_33 rfl rfl rfl (Nat.le_of_ble_eq_true rfl) rfl (Nat.le_of_ble_eq_true rfl) rfl ?_
        exact rj_iret dX12_evening_36 rfl (Nat.le_of_ble_eq_true rfl) (Nat.le_of_ble_eq_true rfl) ⟨(by unfold fX12_evening; rw [if_neg h1]; rw [if_neg h3]; try rfl), rfl, (by unfold mX12_evening; rw [if_neg h1]; rw [if_neg h3]; try rfl)⟩
      · exact absurd (by decide) h5
theorem hSX12_eveningAct : yX12_eveningAct.cls ≠ "java/lang/invoke/MethodHandle" ∧ yX12_eveningAct.cls ≠ "java/lang/invoke/VarHandle" ∧ (parseMethodDescriptor yX12_eveningAct.desc).map (fun d => d.parameters.length) = some 3 := by decide +kernel
theorem hVX12_eveningAct : yX12_eveningAct.cls = RX12 ∧ yX12_eveningAct.cls ≠ "java/lang/invoke/MethodHandle" ∧ yX12_eveningAct.cls ≠ "java/lang/invoke/VarHandle" ∧ (parseMethodDescriptor yX12_eveningAct.desc).map (fun d => d.parameters.length) = some 3 := by decide +kernel
theorem vX12_eveningAct_12 : ∀ w ∈ u_ws RX12 TX12 16, w ∈ wsX12_eveningAct := by decide +kernel
theorem kX12_eveningAct_163 : Cond.fieldLink RX12 163 (TX12 8).1 (TX12 8).2.1 (TX12 8).2.2.1 ∈ wsX12_eveningAct := by decide +kernel
theorem kX12_eveningAct_21 : Cond.fieldLink RX12 21 (TX12 7).1 (TX12 7).2.1 (TX12 7).2.2.1 ∈ wsX12_eveningAct := by decide +kernel
noncomputable def fX12_eveningAct (μ : rj_M) (a0 : Int32) (a1 : Int32) (a2 : Int32) : Int32 := (if (fX12_isVisitor μ a0) = 0 then 0 else (if (fX12_isDay μ a1) = 0 then 0 else (if (fX12_findsEvening (mX12_lacksT μ) a0 a1) ≤ 0 then 0 else (if (fX12_in (mX12_findsEvening (mX12_lacksT μ) a0 a1) a2 0 (((mX12_findsEvening (mX12_lacksT μ) a0 a1).1 395 8) - 1)) = 0 then 0 else ((mX12_findsEvening (mX12_lacksT μ) a0 a1).1 407 a2.toNatClampNeg)))))
noncomputable def mX12_eveningAct (μ : rj_M) (a0 : Int32) (a1 : Int32) (a2 : Int32) : rj_M := (if (fX12_isVisitor μ a0) = 0 then (mX12_lacksF μ) else (if (fX12_isDay μ a1) = 0 then (mX12_lacksF μ) else (if (fX12_findsEvening (mX12_lacksT μ) a0 a1) ≤ 0 then (mX12_noF (mX12_findsEvening (mX12_lacksT μ) a0 a1) 2) else (if (fX12_in (mX12_findsEvening (mX12_lacksT μ) a0 a1) a2 0 (((mX12_findsEvening (mX12_lacksT μ) a0 a1).1 395 8) - 1)) = 0 then (mX12_noF (mX12_findsEvening (mX12_lacksT μ) a0 a1) 2) else (mX12_findsEvening (mX12_lacksT μ) a0 a1)))))
noncomputable def qX12_eveningAct (μ : rj_M) (a0 : Int32) (a1 : Int32) (a2 : Int32) : Prop := ((((fX12_isVisitor μ a0) = 0) → True) ∧ ((¬ ((fX12_isVisitor μ a0) = 0)) → ((((fX12_isDay μ a1) = 0) → True) ∧ ((¬ ((fX12_isDay μ a1) = 0)) → (qX12_findsEvening (mX12_lacksT μ) a0 a1 ∧ ((((fX12_findsEvening (mX12_lacksT μ) a0 a1) ≤ 0) → True) ∧ ((¬ ((fX12_findsEvening (mX12_lacksT μ) a0 a1) ≤ 0)) → ((((fX12_in (mX12_findsEvening (mX12_lacksT μ) a0 a1) a2 0 (((mX12_findsEvening (mX12_lacksT μ) a0 a1).1 395 8) - 1)) = 0) → True) ∧ ((¬ ((fX12_in (mX12_findsEvening (mX12_lacksT μ) a0 a1) a2 0 (((mX12_findsEvening (mX12_lacksT μ) a0 a1).1 395 8) - 1)) = 0)) → (vp_in a2 16 ∧ True))))))))))
set_option maxHeartbeats 40000000 in
set_option maxRecDepth 100000 in
theorem sX12_eveningAct {g : rj_G} {ω : rj_W} (hω : rj_ok ω) (μ : rj_M) (a0 : Int32) (a1 : Int32) (a2 : Int32)   (hq : qX12_eveningAct μ a0 a1 a2) : rj_Sp g yX12_eveningAct wsX12_eveningAct (rj_rm 5 0) [.ref (ω.2.2 395), .int a0, .int a1, .int a2] ω μ (rj_D (.inl (some (.int (fX12_eveningAct μ a0 a1 a2)))) ω (mX12_eveningAct μ a0 a1 a2)) := by
  have hqa := hq
  unfold qX12_eveningAct at hqa
  refine rj_of' (cc := cX12_eveningAct) (nL := 5) (ret := (some .int)) (own := RX12) (l0 := [(0, .ref (ω.2.2 395)), (1, .int a0), (2, .int a1), (3, .int a2)]) rfl (by decide +kernel) rfl (Nat.le_of_ble_eq_true rfl) rfl ?_
  refine rj_aload_n 0 dX12_eveningAct_0 rfl rfl ?_
  refine rj_iload_n 1 dX12_eveningAct_1 rfl rfl ?_
  refine rj_cS (rest := [.ref (ω.2.2 395)]) (sX12_isVisitor (g := g) (ω := ω) hω μ a0   ) gX12_eveningAct_X12_isVisitor rfl hSX12_isVisitor ⟨Nat.le_of_ble_eq_true rfl, Nat.le_of_ble_eq_true rfl⟩ dX12_eveningAct_2 rfl rfl rfl (Nat.le_of_ble_eq_true rfl) rfl (Nat.le_of_ble_eq_true rfl) rfl ?_
  refine rj_if_eq dX12_eveningAct_5 rfl rfl (fun h1 => ?_) (fun h1 => ?_)
  · skip
    refine rj_iconst (v := 0) dX12_eveningAct_19 rfl (by decide) ?_
    refine rj_cV (rest := []) (sX12_lacksF (g := g) (ω := ω) hω μ   ) gX12_eveningAct_X12_lacks (rj_lt hω (k := 395) rfl) (rj_sh hω ly_395) rfl rfl hVX12_lacks ⟨Nat.le_of_ble_eq_true rfl, Nat.le_of_ble_eq_true rfl⟩ dX12_eveningAct_20 rfl rfl rfl (Nat.le_of_ble_eq_true rfl) rfl (Nat.le_of_ble_eq_true rfl) rfl ?_
    refine rj_if_eq dX12_eveningAct_23 rfl rfl (fun h2 => ?_) (fun h2 => ?_)
    · exact absurd h2 (by decide)
    · refine rj_iconst (v := 0) dX12_eveningAct_26 rfl (by decide) ?_
      exact rj_iret dX12_eveningAct_27 rfl (Nat.le_of_ble_eq_true rfl) (Nat.le_of_ble_eq_true rfl) ⟨(by unfold fX12_eveningAct; rw [if_pos h1]; try rfl), rfl, (by unfold mX12_eveningAct; rw [if_pos h1]; try rfl)⟩
  · have hq2 := (And.right hqa) h1
    refine rj_iload_n 2 dX12_eveningAct_8 rfl rfl ?_
    refine rj_cS (rest := [.ref (ω.2.2 395)]) (sX12_isDay (g := g) (ω := ω) hω μ a1   ) gX12_eveningAct_X12_isDay rfl hSX12_isDay ⟨Nat.le_of_ble_eq_true rfl, Nat.le_of_ble_eq_true rfl⟩ dX12_eveningAct_9 rfl rfl rfl (Nat.le_of_ble_eq_true rfl) rfl (Nat.le_of_ble_eq_true rfl) rfl ?_
    refine rj_if_eq dX12_eveningAct_12 rfl rfl (fun h3 => ?_) (fun h3 => ?_)
    · skip
      refine rj_iconst (v := 0) dX12_eveningAct_19 rfl (by decide) ?_
      refine rj_cV (rest := []) (sX12_lacksF (g := g) (ω := ω) hω μ   ) gX12_eveningAct_X12_lacks (rj_lt hω (k := 395) rfl) (rj_sh hω ly_395) rfl rfl hVX12_lacks ⟨Nat.le_of_ble_eq_true rfl, Nat.le_of_ble_eq_true rfl⟩ dX12_eveningAct_20 rfl rfl rfl (Nat.le_of_ble_eq_true rfl) rfl (Nat.le_of_ble_eq_true rfl) rfl ?_
      refine rj_if_eq dX12_eveningAct_23 rfl rfl (fun h4 => ?_) (fun h4 => ?_)
      · exact absurd h4 (by decide)
      · refine rj_iconst (v := 0) dX12_eveningAct_26 rfl (by decide) ?_
        exact rj_iret dX12_eveningAct_27 rfl (Nat.le_of_ble_eq_true rfl) (Nat.le_of_ble_eq_true rfl) ⟨(by unfold fX12_eveningAct; rw [if_neg h1]; rw [if_pos h3]; try rfl), rfl, (by unfold mX12_eveningAct; rw [if_neg h1]; rw [if_pos h3]; try rfl)⟩
    · have hq4 := (And.right hq2) h3
      refine rj_iconst (v := 1) dX12_eveningAct_15 rfl (by decide) ?_
      refine rj_goto dX12_eveningAct_16 rfl ?_
      refine rj_cV (rest := []) (sX12_lacksT (g := g) (ω := ω) hω μ   ) gX12_eveningAct_X12_lacks (rj_lt hω (k := 395) rfl) (rj_sh hω ly_395) rfl rfl hVX12_lacks ⟨Nat.le_of_ble_eq_true rfl, Nat.le_of_ble_eq_true rfl⟩ dX12_eveningAct_20 rfl rfl rfl (Nat.le_of_ble_eq_true rfl) rfl (Nat.le_of_ble_eq_true rfl) rfl ?_
      refine rj_if_eq dX12_eveningAct_23 rfl rfl (fun h5 => ?_) (fun h5 => ?_)
      · refine rj_aload_n 0 dX12_eveningAct_28 rfl rfl ?_
        refine rj_iload_n 1 dX12_eveningAct_29 rfl rfl ?_
        refine rj_iload_n 2 dX12_eveningAct_30 rfl rfl ?_
        refine rj_cV (rest := []) (sX12_findsEvening (g := g) (ω := ω) hω (mX12_lacksT μ) a0 a1  (rj_isVisitor h1) (And.left hq4)) gX12_eveningAct_X12_findsEvening (rj_lt hω (k := 395) rfl) (rj_sh hω ly_395) rfl rfl hVX12_findsEvening ⟨Nat.le_of_ble_eq_true rfl, Nat.le_of_ble_eq_true rfl⟩ dX12_eveningAct_31 rfl rfl rfl (Nat.le_of_ble_eq_true rfl) rfl (Nat.le_of_ble_eq_true rfl) rfl ?_
        refine rj_istore (l' := [(4, .int (fX12_findsEvening (mX12_lacksT μ) a0 a1)), (0, .ref (ω.2.2 395)), (1, .int a0), (2, .int a1), (3, .int a2)]) dX12_eveningAct_34 rfl (rj_bl rfl) rfl ?_
        refine rj_aload_n 1 dX12_eveningAct_36 rfl rfl ?_
        refine rj_iload 0 dX12_eveningAct_37 rfl rfl ?_
        refine rj_if_le dX12_eveningAct_39 rfl rfl (fun h6 => ?_) (fun h6 => ?_)
        · skip
          refine rj_iconst (v := 0) dX12_eveningAct_60 rfl (by decide) ?_
          refine rj_iconst (v := 2) dX12_eveningAct_61 rfl (by decide) ?_
          refine rj_cV (rest := []) (sX12_noF (g := g) (ω := ω) hω (mX12_findsEvening (mX12_lacksT μ) a0 a1) 2   ) gX12_eveningAct_X12_no (rj_lt hω (k := 395) rfl) (rj_sh hω ly_395) rfl rfl hVX12_no ⟨Nat.le_of_ble_eq_true rfl, Nat.le_of_ble_eq_true rfl⟩ dX12_eveningAct_62 rfl rfl rfl (Nat.le_of_ble_eq_true rfl) rfl (Nat.le_of_ble_eq_true rfl) rfl ?_
          refine rj_if_eq dX12_eveningAct_65 rfl rfl (fun h7 => ?_) (fun h7 => ?_)
          · exact absurd h7 (by decide)
          · refine rj_iconst (v := 0) dX12_eveningAct_68 rfl (by decide) ?_
            refine rj_goto dX12_eveningAct_69 rfl ?_
            exact rj_iret dX12_eveningAct_78 rfl (Nat.le_of_ble_eq_true rfl) (Nat.le_of_ble_eq_true rfl) ⟨(by unfold fX12_eveningAct; rw [if_neg h1]; rw [if_neg h3]; rw [if_pos h6]; try rfl), rfl, (by unfold mX12_eveningAct; rw [if_neg h1]; rw [if_neg h3]; rw [if_pos h6]; try rfl)⟩
        · have hq6 := (And.right (And.right hq4)) h6
          refine rj_iload_n 4 dX12_eveningAct_42 rfl rfl ?_
          refine rj_iconst (v := 0) dX12_eveningAct_43 rfl (by decide) ?_
          refine rj_aload_n 1 dX12_eveningAct_44 rfl rfl ?_
          refine rj_getI (C0 := RX12) (T := TX12) (N := 16) (j := 8) dX12_eveningAct_45 rfl vX12_eveningAct_12 rfl (rj_lt hω (k := 395) rfl) (rj_sh hω ly_395) (by decide) kX12_eveningAct_163 rfl ?_
          refine rj_iconst (v := 1) dX12_eveningAct_48 rfl (by decide) ?_
          refine rj_isub dX12_eveningAct_49 rfl ?_
          refine rj_cS (rest := [.ref (ω.2.2 395)]) (sX12_in (g := g) (ω := ω) hω (mX12_findsEvening (mX12_lacksT μ) a0 a1) a2 0 (((mX12_findsEvening (mX12_lacksT μ) a0 a1).1 395 8) - 1)   ) gX12_eveningAct_X12_in rfl hSX12_in ⟨Nat.le_of_ble_eq_true rfl, Nat.le_of_ble_eq_true rfl⟩ dX12_eveningAct_50 rfl rfl rfl (Nat.le_of_ble_eq_true rfl) rfl (Nat.le_of_ble_eq_true rfl) rfl ?_
          refine rj_if_eq dX12_eveningAct_53 rfl rfl (fun h8 => ?_) (fun h8 => ?_)
          · skip
            refine rj_iconst (v := 0) dX12_eveningAct_60 rfl (by decide) ?_
            refine rj_iconst (v := 2) dX12_eveningAct_61 rfl (by decide) ?_
            refine rj_cV (rest := []) (sX12_noF (g := g) (ω := ω) hω (mX12_findsEvening (mX12_lacksT μ) a0 a1) 2   ) gX12_eveningAct_X12_no (rj_lt hω (k := 395) rfl) (rj_sh hω ly_395) rfl rfl hVX12_no ⟨Nat.le_of_ble_eq_true rfl, Nat.le_of_ble_eq_true rfl⟩ dX12_eveningAct_62 rfl rfl rfl (Nat.le_of_ble_eq_true rfl) rfl (Nat.le_of_ble_eq_true rfl) rfl ?_
            refine rj_if_eq dX12_eveningAct_65 rfl rfl (fun h9 => ?_) (fun h9 => ?_)
            · exact absurd h9 (by decide)
            · refine rj_iconst (v := 0) dX12_eveningAct_68 rfl (by decide) ?_
              refine rj_goto dX12_eveningAct_69 rfl ?_
              exact rj_iret dX12_eveningAct_78 rfl (Nat.le_of_ble_eq_true rfl) (Nat.le_of_ble_eq_true rfl) ⟨(by unfold fX12_eveningAct; rw [if_neg h1]; rw [if_neg h3]; rw [if_neg h6]; rw [if_pos h8]; try rfl), rfl, (by unfold mX12_eveningAct; rw [if_neg h1]; rw [if_neg h3]; rw [if_neg h6]; rw [if_pos h8]; try rfl)⟩
          · have hq8 := (And.right hq6) h8
            refine rj_iconst (v := 1) dX12_eveningAct_56 rfl (by decide) ?_
            refine rj_goto dX12_eveningAct_57 rfl ?_
            refine rj_iconst (v := 2) dX12_eveningAct_61 rfl (by decide) ?_
            refine rj_cV (rest := []) (sX12_noT (g := g) (ω := ω) hω (mX12_findsEvening (mX12_lacksT μ) a0 a1) 2   ) gX12_eveningAct_X12_no (rj_lt hω (k := 395) rfl) (rj_sh hω ly_395) rfl rfl hVX12_no ⟨Nat.le_of_ble_eq_true rfl, Nat.le_of_ble_eq_true rfl⟩ dX12_eveningAct_62 rfl rfl rfl (Nat.le_of_ble_eq_true rfl) rfl (Nat.le_of_ble_eq_true rfl) rfl ?_
            refine rj_if_eq dX12_eveningAct_65 rfl rfl (fun h10 => ?_) (fun h10 => ?_)
            · refine rj_aload_n 1 dX12_eveningAct_72 rfl rfl ?_
              refine rj_getR (C0 := RX12) (T := TX12) (N := 16) (j := 7) (r := 407) dX12_eveningAct_73 rfl vX12_eveningAct_12 rfl (rj_lt hω (k := 395) rfl) (rj_sh hω ly_395) (by decide) kX12_eveningAct_21 rfl ?_
              refine rj_iload_n 4 dX12_eveningAct_76 rfl rfl ?_
              refine rj_iald dX12_eveningAct_77 rfl (rj_lt hω (k := 407) rfl) (rj_sh hω ly_407) (And.left hq8) ?_
              exact rj_iret dX12_eveningAct_78 rfl (Nat.le_of_ble_eq_true rfl) (Nat.le_of_ble_eq_true rfl) ⟨(by unfold fX12_eveningAct; rw [if_neg h1]; rw [if_neg h3]; rw [if_neg h6]; rw [if_neg h8]; try rfl), rfl, (by unfold mX12_eveningAct; rw [if_neg h1]; rw [if_neg h3]; rw [if_neg h6]; rw [if_neg h8]; try rfl)⟩
            · exact absurd (by decide) h10
      · exact absurd (by decide) h5
