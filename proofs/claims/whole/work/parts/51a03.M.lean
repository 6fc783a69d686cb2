theorem hSX12_actsNow : yX12_actsNow.cls ≠ "java/lang/invoke/MethodHandle" ∧ yX12_actsNow.cls ≠ "java/lang/invoke/VarHandle" ∧ (parseMethodDescriptor yX12_actsNow.desc).map (fun d => d.parameters.length) = some 0 := by decide +kernel
theorem hVX12_actsNow : yX12_actsNow.cls = RX12 ∧ yX12_actsNow.cls ≠ "java/lang/invoke/MethodHandle" ∧ yX12_actsNow.cls ≠ "java/lang/invoke/VarHandle" ∧ (parseMethodDescriptor yX12_actsNow.desc).map (fun d => d.parameters.length) = some 0 := by decide +kernel
noncomputable def bX12_actsNow_4 (μ : rj_M) (j4 : Nat) (s4 : Int32) : Int32 := (s4 + (fX12_its μ (nI j4) 0))
set_option maxHeartbeats 4000000 in
set_option maxRecDepth 100000 in
theorem lX12_actsNow_4 {g : rj_G} {ω : rj_W} (hω : rj_ok ω) (μ : rj_M)      {F : rj_F} : ∀ (r j : Nat) (s : Int32), j + r = 16 → (rj_R g RX12 cX12_actsNow 3 (some .int) wsX12_actsNow [] (rj_rm 1 0) F 0 ω μ [(0, .ref (ω.2.2 395)), (1, .int (rj_fo (bX12_actsNow_4 μ) r j s)), (2, .int (nI 16))] 25 []) → rj_R g RX12 cX12_actsNow 3 (some .int) wsX12_actsNow [] (rj_rm 1 0) F 0 ω μ [(0, .ref (ω.2.2 395)), (1, .int s), (2, .int (nI j))] 4 [] := by
  intro r
  induction r with
  | zero =>
    intro j s hj K
    have e0 : j = 16 := by omega
    have hge : 16 ≤ nI j := by
      rw [e0]
      exact Int32.le_refl _
    refine rj_iload_n 2 dX12_actsNow_4 rfl rfl ?_
    refine rj_bipush (v := 16) dX12_actsNow_5 rfl (by decide) ?_
    refine rj_icmp_ge dX12_actsNow_7 rfl rfl (fun h2 => ?_) (fun h2 => ?_)
    · have e1 : nI j = nI 16 := by rw [e0]
      rw [e1]
      exact K
    · exact absurd hge h2
  | succ r ih =>
    intro j4 s4 hj K
    have hl4 : j4 < 16 := by omega
    have hg4 : ¬ 16 ≤ nI j4 := nI_ge hl4 (rj_bl rfl)
    refine rj_iload_n 2 dX12_actsNow_4 rfl rfl ?_
    refine rj_bipush (v := 16) dX12_actsNow_5 rfl (by decide) ?_
    refine rj_icmp_ge dX12_actsNow_7 rfl rfl (fun h1 => ?_) (fun h1 => ?_)
    · exact absurd h1 hg4
    · refine rj_iload_n 1 dX12_actsNow_10 rfl rfl ?_
      refine rj_aload_n 0 dX12_actsNow_11 rfl rfl ?_
      refine rj_iload_n 2 dX12_actsNow_12 rfl rfl ?_
      refine rj_iconst (v := 0) dX12_actsNow_13 rfl (by decide) ?_
      refine rj_cV (rest := [.int s4]) (sX12_its (g := g) (ω := ω) hω μ (nI j4) 0  (vp_in_nI hl4 (rj_bl rfl)) (vp_in_nI (n := 0) (rj_bl rfl) (rj_bl rfl)) ) gX12_actsNow_X12_its (rj_lt hω (k := 395) rfl) (rj_sh hω ly_395) rfl rfl hVX12_its ⟨Nat.le_of_ble_eq_true rfl, Nat.le_of_ble_eq_true rfl⟩ dX12_actsNow_14 rfl rfl rfl (Nat.le_of_ble_eq_true rfl) rfl (Nat.le_of_ble_eq_true rfl) rfl ?_
      refine rj_iadd dX12_actsNow_17 rfl ?_
      refine rj_istore_n (l' := [(1, .int (s4 + (fX12_its μ (nI j4) 0))), (0, .ref (ω.2.2 395)), (2, .int (nI j4))]) dX12_actsNow_18 rfl (rj_bl rfl) rfl ?_
      refine rj_iinc (v := nI (j4 + 1)) (l' := [(2, .int (nI (j4 + 1))), (1, .int (s4 + (fX12_its μ (nI j4) 0))), (0, .ref (ω.2.2 395))]) 2 dX12_actsNow_19 rfl rfl (nI_succ j4).symm (rj_bl rfl) rfl ?_
      refine rj_goto dX12_actsNow_22 rfl ?_
      have e : bX12_actsNow_4 μ j4 s4 = (s4 + (fX12_its μ (nI j4) 0)) := by unfold bX12_actsNow_4; rfl
      exact rj_sub (l' := [(0, .ref (ω.2.2 395)), (1, .int (s4 + (fX12_its μ (nI j4) 0))), (2, .int (nI (j4 + 1)))]) [2, 1, 0] rfl (ih (j4 + 1) (s4 + (fX12_its μ (nI j4) 0)) (by omega) (by rw [rj_fo_s, e] at K; exact K))
noncomputable def fX12_actsNow (μ : rj_M) : Int32 := (rj_fo (bX12_actsNow_4 μ) 16 0 0)
set_option maxHeartbeats 40000000 in
set_option maxRecDepth 100000 in
theorem sX12_actsNow {g : rj_G} {ω : rj_W} (hω : rj_ok ω) (μ : rj_M)   : rj_Sp g yX12_actsNow wsX12_actsNow (rj_rm 1 0) [.ref (ω.2.2 395)] ω μ (rj_D (.inl (some (.int (fX12_actsNow μ)))) ω μ) := by
  refine rj_of' (cc := cX12_actsNow) (nL := 3) (ret := (some .int)) (own := RX12) (l0 := [(0, .ref (ω.2.2 395))]) rfl (by decide +kernel) rfl (Nat.le_of_ble_eq_true rfl) rfl ?_
  refine rj_iconst (v := 0) dX12_actsNow_0 rfl (by decide) ?_
  refine rj_istore_n (l' := [(1, .int 0), (0, .ref (ω.2.2 395))]) dX12_actsNow_1 rfl (rj_bl rfl) rfl ?_
  refine rj_iconst (v := 0) dX12_actsNow_2 rfl (by decide) ?_
  refine rj_istore_n (l' := [(2, .int 0), (1, .int 0), (0, .ref (ω.2.2 395))]) dX12_actsNow_3 rfl (rj_bl rfl) rfl ?_
  refine rj_sub (l' := [(0, .ref (ω.2.2 395)), (1, .int 0), (2, .int (nI 0))]) [2, 1, 0] rfl ?_
  refine lX12_actsNow_4 hω μ      16 0 0 rfl ?_
  refine rj_iload_n 1 dX12_actsNow_25 rfl rfl ?_
  exact rj_iret dX12_actsNow_26 rfl (Nat.le_of_ble_eq_true rfl) (Nat.le_of_ble_eq_true rfl) ⟨(by unfold fX12_actsNow; rfl), rfl, rfl⟩
theorem hSX12_acts : yX12_acts.cls ≠ "java/lang/invoke/MethodHandle" ∧ yX12_acts.cls ≠ "java/lang/invoke/VarHandle" ∧ (parseMethodDescriptor yX12_acts.desc).map (fun d => d.parameters.length) = some 0 := by decide +kernel
theorem hVX12_acts : yX12_acts.cls = RX12 ∧ yX12_acts.cls ≠ "java/lang/invoke/MethodHandle" ∧ yX12_acts.cls ≠ "java/lang/invoke/VarHandle" ∧ (parseMethodDescriptor yX12_acts.desc).map (fun d => d.parameters.length) = some 0 := by decide +kernel
theorem vX12_acts_12 : ∀ w ∈ u_ws RX12 TX12 16, w ∈ wsX12_acts := by decide +kernel
theorem kX12_acts_39 : Cond.fieldLink RX12 39 (TX12 0).1 (TX12 0).2.1 (TX12 0).2.2.1 ∈ wsX12_acts := by decide +kernel
noncomputable def fX12_acts (μ : rj_M) : Int32 := (fX12_actsNow (rj_pi μ 395 0 0))
noncomputable def mX12_acts (μ : rj_M) : rj_M := (rj_pi μ 395 0 0)
set_option maxHeartbeats 40000000 in
set_option maxRecDepth 100000 in
theorem sX12_acts {g : rj_G} {ω : rj_W} (hω : rj_ok ω) (μ : rj_M)   : rj_Sp g yX12_acts wsX12_acts (rj_rm 2 0) [.ref (ω.2.2 395)] ω μ (rj_D (.inl (some (.int (fX12_acts μ)))) ω (mX12_acts μ)) := by
  refine rj_of' (cc := cX12_acts) (nL := 1) (ret := (some .int)) (own := RX12) (l0 := [(0, .ref (ω.2.2 395))]) rfl (by decide +kernel) rfl (Nat.le_of_ble_eq_true rfl) rfl ?_
  refine rj_aload_n 0 dX12_acts_0 rfl rfl ?_
  refine rj_iconst (v := 0) dX12_acts_1 rfl (by decide) ?_
  refine rj_putI (C0 := RX12) (T := TX12) (N := 16) (j := 0) dX12_acts_2 rfl vX12_acts_12 rfl (rj_lt hω (k := 395) rfl) (rj_sh hω ly_395) (by decide) kX12_acts_39 tyX12 tyX12_ok nmX12 rfl rfl rfl rfl ?_
  refine rj_aload_n 0 dX12_acts_5 rfl rfl ?_
  refine rj_cV (rest := []) (sX12_actsNow (g := g) (ω := ω) hω (rj_pi μ 395 0 0)   ) gX12_acts_X12_actsNow (rj_lt hω (k := 395) rfl) (rj_sh hω ly_395) rfl rfl hVX12_actsNow ⟨Nat.le_of_ble_eq_true rfl, Nat.le_of_ble_eq_true rfl⟩ dX12_acts_6 rfl rfl rfl (Nat.le_of_ble_eq_true rfl) rfl (Nat.le_of_ble_eq_true rfl) rfl ?_
  exact rj_iret dX12_acts_9 rfl (Nat.le_of_ble_eq_true rfl) (Nat.le_of_ble_eq_true rfl) ⟨(by unfold fX12_acts; rfl), rfl, (by unfold mX12_acts; rfl)⟩
