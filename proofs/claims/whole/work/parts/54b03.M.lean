theorem hSX12_lostNow : yX12_lostNow.cls ≠ "java/lang/invoke/MethodHandle" ∧ yX12_lostNow.cls ≠ "java/lang/invoke/VarHandle" ∧ (parseMethodDescriptor yX12_lostNow.desc).map (fun d => d.parameters.length) = some 0 := by decide +kernel
theorem hVX12_lostNow : yX12_lostNow.cls = RX12 ∧ yX12_lostNow.cls ≠ "java/lang/invoke/MethodHandle" ∧ yX12_lostNow.cls ≠ "java/lang/invoke/VarHandle" ∧ (parseMethodDescriptor yX12_lostNow.desc).map (fun d => d.parameters.length) = some 0 := by decide +kernel
theorem vX12_lostNow_12 : ∀ w ∈ u_ws RX12 TX12 16, w ∈ wsX12_lostNow := by decide +kernel
theorem kX12_lostNow_9 : Cond.fieldLink RX12 9 (TX12 1).1 (TX12 1).2.1 (TX12 1).2.2.1 ∈ wsX12_lostNow := by decide +kernel
noncomputable def bX12_lostNow_4 (μ : rj_M) (j4 : Nat) (s4 : Int32) : Int32 := (if (μ.1 396 (525 + (nI j4)).toNatClampNeg) = (-1) then (s4 + 0) else (s4 + 1))
set_option maxHeartbeats 4000000 in
set_option maxRecDepth 100000 in
theorem lX12_lostNow_4 {g : rj_G} {ω : rj_W} (hω : rj_ok ω) (μ : rj_M)      {F : rj_F} : ∀ (r j : Nat) (s : Int32), j + r = 100 → (rj_R g RX12 cX12_lostNow 3 (some .int) wsX12_lostNow [] (rj_rm 0 0) F 0 ω μ [(0, .ref (ω.2.2 395)), (1, .int (rj_fo (bX12_lostNow_4 μ) r j s)), (2, .int (nI 100))] 38 []) → rj_R g RX12 cX12_lostNow 3 (some .int) wsX12_lostNow [] (rj_rm 0 0) F 0 ω μ [(0, .ref (ω.2.2 395)), (1, .int s), (2, .int (nI j))] 4 [] := by
  intro r
  induction r with
  | zero =>
    intro j s hj K
    have e0 : j = 100 := by omega
    have hge : 100 ≤ nI j := by
      rw [e0]
      exact Int32.le_refl _
    refine rj_iload_n 2 dX12_lostNow_4 rfl rfl ?_
    refine rj_bipush (v := 100) dX12_lostNow_5 rfl (by decide) ?_
    refine rj_icmp_ge dX12_lostNow_7 rfl rfl (fun h3 => ?_) (fun h3 => ?_)
    · have e1 : nI j = nI 100 := by rw [e0]
      rw [e1]
      exact K
    · exact absurd hge h3
  | succ r ih =>
    intro j4 s4 hj K
    have hl4 : j4 < 100 := by omega
    have hg4 : ¬ 100 ≤ nI j4 := nI_ge hl4 (rj_bl rfl)
    refine rj_iload_n 2 dX12_lostNow_4 rfl rfl ?_
    refine rj_bipush (v := 100) dX12_lostNow_5 rfl (by decide) ?_
    refine rj_icmp_ge dX12_lostNow_7 rfl rfl (fun h1 => ?_) (fun h1 => ?_)
    · exact absurd h1 hg4
    · refine rj_iload_n 1 dX12_lostNow_10 rfl rfl ?_
      refine rj_aload_n 0 dX12_lostNow_11 rfl rfl ?_
      refine rj_getR (C0 := RX12) (T := TX12) (N := 16) (j := 1) (r := 396) dX12_lostNow_12 rfl vX12_lostNow_12 rfl (rj_lt hω (k := 395) rfl) (rj_sh hω ly_395) (by decide) kX12_lostNow_9 rfl ?_
      refine rj_sipush (v := 525) dX12_lostNow_15 rfl (by decide) ?_
      refine rj_iload_n 2 dX12_lostNow_18 rfl rfl ?_
      refine rj_iadd dX12_lostNow_19 rfl ?_
      refine rj_iald dX12_lostNow_20 rfl (rj_lt hω (k := 396) rfl) (rj_sh hω ly_396) (rj_vle (rj_vadd (N := 625) (vp_in_nI (n := 525) (N := 526) (rj_bl rfl) (rj_bl rfl)) (vp_in_nI (N := 100) hl4 (rj_bl rfl)) rfl rfl) rfl) ?_
      refine rj_iconst (v := (-1)) dX12_lostNow_21 rfl (by decide) ?_
      refine rj_icmp_ne dX12_lostNow_22 rfl rfl (fun h2 => ?_) (fun h2 => ?_)
      · refine rj_iconst (v := 1) dX12_lostNow_29 rfl (by decide) ?_
        refine rj_iadd dX12_lostNow_30 rfl ?_
        refine rj_istore_n (l' := [(1, .int (s4 + 1)), (0, .ref (ω.2.2 395)), (2, .int (nI j4))]) dX12_lostNow_31 rfl (rj_bl rfl) rfl ?_
        refine rj_iinc (v := nI (j4 + 1)) (l' := [(2, .int (nI (j4 + 1))), (1, .int (s4 + 1)), (0, .ref (ω.2.2 395))]) 2 dX12_lostNow_32 rfl rfl (nI_succ j4).symm (rj_bl rfl) rfl ?_
        refine rj_goto dX12_lostNow_35 rfl ?_
        have e : bX12_lostNow_4 μ j4 s4 = (s4 + 1) := by unfold bX12_lostNow_4; rw [if_neg h2]; try rfl
        exact rj_sub (l' := [(0, .ref (ω.2.2 395)), (1, .int (s4 + 1)), (2, .int (nI (j4 + 1)))]) [2, 1, 0] rfl (ih (j4 + 1) (s4 + 1) (by omega) (by rw [rj_fo_s (r := r), e] at K; exact K))
      · refine rj_iconst (v := 0) dX12_lostNow_25 rfl (by decide) ?_
        refine rj_goto dX12_lostNow_26 rfl ?_
        refine rj_iadd dX12_lostNow_30 rfl ?_
        refine rj_istore_n (l' := [(1, .int (s4 + 0)), (0, .ref (ω.2.2 395)), (2, .int (nI j4))]) dX12_lostNow_31 rfl (rj_bl rfl) rfl ?_
        refine rj_iinc (v := nI (j4 + 1)) (l' := [(2, .int (nI (j4 + 1))), (1, .int (s4 + 0)), (0, .ref (ω.2.2 395))]) 2 dX12_lostNow_32 rfl rfl (nI_succ j4).symm (rj_bl rfl) rfl ?_
        refine rj_goto dX12_lostNow_35 rfl ?_
        have e : bX12_lostNow_4 μ j4 s4 = (s4 + 0) := by unfold bX12_lostNow_4; rw [if_pos h2]; try rfl
        exact rj_sub (l' := [(0, .ref (ω.2.2 395)), (1, .int (s4 + 0)), (2, .int (nI (j4 + 1)))]) [2, 1, 0] rfl (ih (j4 + 1) (s4 + 0) (by omega) (by rw [rj_fo_s (r := r), e] at K; exact K))
noncomputable def fX12_lostNow (μ : rj_M) : Int32 := (rj_fo (bX12_lostNow_4 μ) 100 0 0)
set_option maxHeartbeats 40000000 in
set_option maxRecDepth 100000 in
theorem sX12_lostNow {g : rj_G} {ω : rj_W} (hω : rj_ok ω) (μ : rj_M)   : rj_Sp g yX12_lostNow wsX12_lostNow (rj_rm 0 0) [.ref (ω.2.2 395)] ω μ (rj_D (.inl (some (.int (fX12_lostNow μ)))) ω μ) := by
  refine rj_of' (cc := cX12_lostNow) (nL := 3) (ret := (some .int)) (own := RX12) (l0 := [(0, .ref (ω.2.2 395))]) rfl (by decide +kernel) rfl (Nat.le_of_ble_eq_true rfl) rfl ?_
  refine rj_iconst (v := 0) dX12_lostNow_0 rfl (by decide) ?_
  refine rj_istore_n (l' := [(1, .int 0), (0, .ref (ω.2.2 395))]) dX12_lostNow_1 rfl (rj_bl rfl) rfl ?_
  refine rj_iconst (v := 0) dX12_lostNow_2 rfl (by decide) ?_
  refine rj_istore_n (l' := [(2, .int 0), (1, .int 0), (0, .ref (ω.2.2 395))]) dX12_lostNow_3 rfl (rj_bl rfl) rfl ?_
  refine rj_sub (l' := [(0, .ref (ω.2.2 395)), (1, .int 0), (2, .int (nI 0))]) [2, 1, 0] rfl ?_
  refine lX12_lostNow_4 hω μ      100 0 0 rfl ?_
  refine rj_iload_n 1 dX12_lostNow_38 rfl rfl ?_
  exact rj_iret dX12_lostNow_39 rfl (Nat.le_of_ble_eq_true rfl) (Nat.le_of_ble_eq_true rfl) ⟨(by unfold fX12_lostNow; rfl), rfl, rfl⟩
theorem hSX12_lose : yX12_lose.cls ≠ "java/lang/invoke/MethodHandle" ∧ yX12_lose.cls ≠ "java/lang/invoke/VarHandle" ∧ (parseMethodDescriptor yX12_lose.desc).map (fun d => d.parameters.length) = some 2 := by decide +kernel
theorem hVX12_lose : yX12_lose.cls = RX12 ∧ yX12_lose.cls ≠ "java/lang/invoke/MethodHandle" ∧ yX12_lose.cls ≠ "java/lang/invoke/VarHandle" ∧ (parseMethodDescriptor yX12_lose.desc).map (fun d => d.parameters.length) = some 2 := by decide +kernel
theorem vX12_lose_12 : ∀ w ∈ u_ws RX12 TX12 16, w ∈ wsX12_lose := by decide +kernel
theorem kX12_lose_9 : Cond.fieldLink RX12 9 (TX12 1).1 (TX12 1).2.1 (TX12 1).2.2.1 ∈ wsX12_lose := by decide +kernel
noncomputable def fX12_lose (μ : rj_M) (a0 : Int32) (a1 : Int32) : Int32 := (if (fX12_lacks μ (fX12_isStage μ a1)) = 0 then (if (fX12_no (mX12_lacks μ (fX12_isStage μ a1)) (fX12_in (mX12_lacks μ (fX12_isStage μ a1)) a0 0 99) 2) = 0 then (fX12_lostNow (rj_pi (mX12_keeps (mX12_no (mX12_lacks μ (fX12_isStage μ a1)) (fX12_in (mX12_lacks μ (fX12_isStage μ a1)) a0 0 99) 2)) 396 (525 + a0).toNatClampNeg a1)) else 0) else 0)
noncomputable def mX12_lose (μ : rj_M) (a0 : Int32) (a1 : Int32) : rj_M := (if (fX12_lacks μ (fX12_isStage μ a1)) = 0 then (if (fX12_no (mX12_lacks μ (fX12_isStage μ a1)) (fX12_in (mX12_lacks μ (fX12_isStage μ a1)) a0 0 99) 2) = 0 then (rj_pi (mX12_keeps (mX12_no (mX12_lacks μ (fX12_isStage μ a1)) (fX12_in (mX12_lacks μ (fX12_isStage μ a1)) a0 0 99) 2)) 396 (525 + a0).toNatClampNeg a1) else (mX12_no (mX12_lacks μ (fX12_isStage μ a1)) (fX12_in (mX12_lacks μ (fX12_isStage μ a1)) a0 0 99) 2)) else (mX12_lacks μ (fX12_isStage μ a1)))
noncomputable def qX12_lose (μ : rj_M) (a0 : Int32) (a1 : Int32) : Prop := ((((fX12_lacks μ (fX12_isStage μ a1)) = 0) → ((((fX12_no (mX12_lacks μ (fX12_isStage μ a1)) (fX12_in (mX12_lacks μ (fX12_isStage μ a1)) a0 0 99) 2) = 0) → (qX12_keeps (mX12_no (mX12_lacks μ (fX12_isStage μ a1)) (fX12_in (mX12_lacks μ (fX12_isStage μ a1)) a0 0 99) 2) ∧ vp_in (525 + a0) 625 ∧ True)) ∧ ((¬ ((fX12_no (mX12_lacks μ (fX12_isStage μ a1)) (fX12_in (mX12_lacks μ (fX12_isStage μ a1)) a0 0 99) 2) = 0)) → True))) ∧ ((¬ ((fX12_lacks μ (fX12_isStage μ a1)) = 0)) → True))
set_option maxHeartbeats 40000000 in
set_option maxRecDepth 100000 in
theorem sX12_lose {g : rj_G} {ω : rj_W} (hω : rj_ok ω) (μ : rj_M) (a0 : Int32) (a1 : Int32)   (hq : qX12_lose μ a0 a1) : rj_Sp g yX12_lose wsX12_lose (rj_rm 2 0) [.ref (ω.2.2 395), .int a0, .int a1] ω μ (rj_D (.inl (some (.int (fX12_lose μ a0 a1)))) ω (mX12_lose μ a0 a1)) := by
  have hqa := hq
  unfold qX12_lose at hqa
  refine rj_of' (cc := cX12_lose) (nL := 3) (ret := (some .int)) (own := RX12) (l0 := [(0, .ref (ω.2.2 395)), (1, .int a0), (2, .int a1)]) rfl (by decide +kernel) rfl (Nat.le_of_ble_eq_true rfl) rfl ?_
  refine rj_aload_n 0 dX12_lose_0 rfl rfl ?_
  refine rj_iload_n 2 dX12_lose_1 rfl rfl ?_
  refine rj_cS (rest := [.ref (ω.2.2 395)]) (sX12_isStage (g := g) (ω := ω) hω μ a1   ) gX12_lose_X12_isStage rfl hSX12_isStage ⟨Nat.le_of_ble_eq_true rfl, Nat.le_of_ble_eq_true rfl⟩ dX12_lose_2 rfl rfl rfl (Nat.le_of_ble_eq_true rfl) rfl (Nat.le_of_ble_eq_true rfl) rfl ?_
  refine rj_cV (rest := []) (sX12_lacks (g := g) (ω := ω) hω μ (fX12_isStage μ a1)   ) gX12_lose_X12_lacks (rj_lt hω (k := 395) rfl) (rj_sh hω ly_395) rfl rfl hVX12_lacks ⟨Nat.le_of_ble_eq_true rfl, Nat.le_of_ble_eq_true rfl⟩ dX12_lose_5 rfl rfl rfl (Nat.le_of_ble_eq_true rfl) rfl (Nat.le_of_ble_eq_true rfl) rfl ?_
  refine rj_if_ne dX12_lose_8 rfl rfl (fun h1 => ?_) (fun h1 => ?_)
  · skip
    refine rj_iconst (v := 0) dX12_lose_26 rfl (by decide) ?_
    exact rj_iret dX12_lose_27 rfl (Nat.le_of_ble_eq_true rfl) (Nat.le_of_ble_eq_true rfl) ⟨(by unfold fX12_lose; rw [if_neg h1]; try rfl), rfl, (by unfold mX12_lose; rw [if_neg h1]; try rfl)⟩
  · have hq2 := (And.left hqa) h1
    refine rj_aload_n 0 dX12_lose_11 rfl rfl ?_
    refine rj_iload_n 1 dX12_lose_12 rfl rfl ?_
    refine rj_iconst (v := 0) dX12_lose_13 rfl (by decide) ?_
    refine rj_bipush (v := 99) dX12_lose_14 rfl (by decide) ?_
    refine rj_cS (rest := [.ref (ω.2.2 395)]) (sX12_in (g := g) (ω := ω) hω (mX12_lacks μ (fX12_isStage μ a1)) a0 0 99   ) gX12_lose_X12_in rfl hSX12_in ⟨Nat.le_of_ble_eq_true rfl, Nat.le_of_ble_eq_true rfl⟩ dX12_lose_16 rfl rfl rfl (Nat.le_of_ble_eq_true rfl) rfl (Nat.le_of_ble_eq_true rfl) rfl ?_
    refine rj_iconst (v := 2) dX12_lose_19 rfl (by decide) ?_
    refine rj_cV (rest := []) (sX12_no (g := g) (ω := ω) hω (mX12_lacks μ (fX12_isStage μ a1)) (fX12_in (mX12_lacks μ (fX12_isStage μ a1)) a0 0 99) 2   ) gX12_lose_X12_no (rj_lt hω (k := 395) rfl) (rj_sh hω ly_395) rfl rfl hVX12_no ⟨Nat.le_of_ble_eq_true rfl, Nat.le_of_ble_eq_true rfl⟩ dX12_lose_20 rfl rfl rfl (Nat.le_of_ble_eq_true rfl) rfl (Nat.le_of_ble_eq_true rfl) rfl ?_
    refine rj_if_eq dX12_lose_23 rfl rfl (fun h2 => ?_) (fun h2 => ?_)
    · have hq3 := (And.left hq2) h2
      refine rj_aload_n 0 dX12_lose_28 rfl rfl ?_
      refine rj_cV (rest := []) (sX12_keeps (g := g) (ω := ω) hω (mX12_no (mX12_lacks μ (fX12_isStage μ a1)) (fX12_in (mX12_lacks μ (fX12_isStage μ a1)) a0 0 99) 2)   (And.left hq3)) gX12_lose_X12_keeps (rj_lt hω (k := 395) rfl) (rj_sh hω ly_395) rfl rfl hVX12_keeps ⟨Nat.le_of_ble_eq_true rfl, Nat.le_of_ble_eq_true rfl⟩ dX12_lose_29 rfl rfl rfl (Nat.le_of_ble_eq_true rfl) rfl (Nat.le_of_ble_eq_true rfl) rfl ?_
      refine rj_aload_n 0 dX12_lose_32 rfl rfl ?_
      refine rj_getR (C0 := RX12) (T := TX12) (N := 16) (j := 1) (r := 396) dX12_lose_33 rfl vX12_lose_12 rfl (rj_lt hω (k := 395) rfl) (rj_sh hω ly_395) (by decide) kX12_lose_9 rfl ?_
      refine rj_sipush (v := 525) dX12_lose_36 rfl (by decide) ?_
      refine rj_iload_n 1 dX12_lose_39 rfl rfl ?_
      refine rj_iadd dX12_lose_40 rfl ?_
      refine rj_iload_n 2 dX12_lose_41 rfl rfl ?_
      refine rj_iast dX12_lose_42 rfl (rj_lt hω (k := 396) rfl) (rj_sh hω ly_396) (And.left (And.right hq3)) ?_
      refine rj_aload_n 0 dX12_lose_43 rfl rfl ?_
      refine rj_cV (rest := []) (sX12_lostNow (g := g) (ω := ω) hω (rj_pi (mX12_keeps (mX12_no (mX12_lacks μ (fX12_isStage μ a1)) (fX12_in (mX12_lacks μ (fX12_isStage μ a1)) a0 0 99) 2)) 396 (525 + a0).toNatClampNeg a1)   ) gX12_lose_X12_lostNow (rj_lt hω (k := 395) rfl) (rj_sh hω ly_395) rfl rfl hVX12_lostNow ⟨Nat.le_of_ble_eq_true rfl, Nat.le_of_ble_eq_true rfl⟩ dX12_lose_44 rfl rfl rfl (Nat.le_of_ble_eq_true rfl) rfl (Nat.le_of_ble_eq_true rfl) rfl ?_
      exact rj_iret dX12_lose_47 rfl (Nat.le_of_ble_eq_true rfl) (Nat.le_of_ble_eq_true rfl) ⟨(by unfold fX12_lose; rw [if_pos h1]; rw [if_pos h2]; try rfl), rfl, (by unfold mX12_lose; rw [if_pos h1]; rw [if_pos h2]; try rfl)⟩
    · skip
      refine rj_iconst (v := 0) dX12_lose_26 rfl (by decide) ?_
      exact rj_iret dX12_lose_27 rfl (Nat.le_of_ble_eq_true rfl) (Nat.le_of_ble_eq_true rfl) ⟨(by unfold fX12_lose; rw [if_pos h1]; rw [if_neg h2]; try rfl), rfl, (by unfold mX12_lose; rw [if_pos h1]; rw [if_neg h2]; try rfl)⟩
