theorem hSX12_clashes : yX12_clashes.cls ≠ "java/lang/invoke/MethodHandle" ∧ yX12_clashes.cls ≠ "java/lang/invoke/VarHandle" ∧ (parseMethodDescriptor yX12_clashes.desc).map (fun d => d.parameters.length) = some 0 := by decide +kernel
theorem hVX12_clashes : yX12_clashes.cls = RX12 ∧ yX12_clashes.cls ≠ "java/lang/invoke/MethodHandle" ∧ yX12_clashes.cls ≠ "java/lang/invoke/VarHandle" ∧ (parseMethodDescriptor yX12_clashes.desc).map (fun d => d.parameters.length) = some 0 := by decide +kernel
theorem vX12_clashes_12 : ∀ w ∈ u_ws RX12 TX12 16, w ∈ wsX12_clashes := by decide +kernel
theorem kX12_clashes_39 : Cond.fieldLink RX12 39 (TX12 0).1 (TX12 0).2.1 (TX12 0).2.2.1 ∈ wsX12_clashes := by decide +kernel
noncomputable def bX12_clashes_17 (μ : rj_M) (j9 : Nat) (s9 : Int32) (j17 : Nat) (s17 : Int32) : Int32 := (if (fX12_isAct (rj_pi μ 395 0 0) (nI j9)) = 0 then (s17 + 0) else (if (fX12_isAct (rj_pi μ 395 0 0) (nI j17)) = 0 then (s17 + 0) else (if (fX12_areClashing (rj_pi μ 395 0 0) (nI j9) (nI j17)) = 0 then (s17 + 0) else (s17 + 1))))
set_option maxHeartbeats 4000000 in
set_option maxRecDepth 100000 in
theorem lX12_clashes_17 {g : rj_G} {ω : rj_W} (hω : rj_ok ω) (μ : rj_M) (j9 : Nat) (s9 : Int32)   (hl9 : j9 < 16)  (h1 : ¬ (16 ≤ nI j9)) {F : rj_F} : ∀ (r j : Nat) (s : Int32), r = (nI j9).toInt.toNat - j → j < 2 ^ 31 → (rj_R g RX12 cX12_clashes 4 (some .int) wsX12_clashes [] (rj_rm 4 0) F 0 ω (rj_pi μ 395 0 0) [(0, .ref (ω.2.2 395)), (1, .int (rj_fo (bX12_clashes_17 μ j9 s9) r j s)), (2, .int (nI j9))] 61 []) → rj_R g RX12 cX12_clashes 4 (some .int) wsX12_clashes [] (rj_rm 4 0) F 0 ω (rj_pi μ 395 0 0) [(0, .ref (ω.2.2 395)), (1, .int s), (2, .int (nI j9)), (3, .int (nI j))] 17 [] := by
  intro r
  induction r with
  | zero =>
    intro j s hj hJ K
    have e0 : (nI j9).toInt.toNat ≤ j := by omega
    have hge : nI j9 ≤ nI j := (rj_leN hJ).mpr e0
    refine rj_iload_n 3 dX12_clashes_17 rfl rfl ?_
    refine rj_iload_n 2 dX12_clashes_18 rfl rfl ?_
    refine rj_icmp_ge dX12_clashes_19 rfl rfl (fun h6 => ?_) (fun h6 => ?_)
    · refine rj_sub (l' := [(0, .ref (ω.2.2 395)), (1, .int s), (2, .int (nI j9))]) [0, 1, 2] rfl ?_
      exact K
    · exact absurd hge h6
  | succ r ih =>
    intro j17 s17 hj hJ K
    have hl17 : j17 < (nI j9).toInt.toNat := by omega
    have hg17 : ¬ nI j9 ≤ nI j17 := fun z => absurd ((rj_leN hJ).mp z) (by omega)
    have hN := rj_tN (nI j9)
    refine rj_iload_n 3 dX12_clashes_17 rfl rfl ?_
    refine rj_iload_n 2 dX12_clashes_18 rfl rfl ?_
    refine rj_icmp_ge dX12_clashes_19 rfl rfl (fun h2 => ?_) (fun h2 => ?_)
    · exact absurd h2 hg17
    · refine rj_iload_n 1 dX12_clashes_22 rfl rfl ?_
      refine rj_aload_n 0 dX12_clashes_23 rfl rfl ?_
      refine rj_iload_n 2 dX12_clashes_24 rfl rfl ?_
      refine rj_cV (rest := [.int s17]) (sX12_isAct (g := g) (ω := ω) hω (rj_pi μ 395 0 0) (nI j9)   ) gX12_clashes_X12_isAct (rj_lt hω (k := 395) rfl) (rj_sh hω ly_395) rfl rfl hVX12_isAct ⟨Nat.le_of_ble_eq_true rfl, Nat.le_of_ble_eq_true rfl⟩ dX12_clashes_25 rfl rfl rfl (Nat.le_of_ble_eq_true rfl) rfl (Nat.le_of_ble_eq_true rfl) rfl ?_
      refine rj_if_eq dX12_clashes_28 rfl rfl (fun h3 => ?_) (fun h3 => ?_)
      · refine rj_iconst (v := 0) dX12_clashes_52 rfl (by decide) ?_
        refine rj_iadd dX12_clashes_53 rfl ?_
        refine rj_istore_n (l' := [(1, .int (s17 + 0)), (0, .ref (ω.2.2 395)), (2, .int (nI j9)), (3, .int (nI j17))]) dX12_clashes_54 rfl (rj_bl rfl) rfl ?_
        refine rj_iinc (v := nI (j17 + 1)) (l' := [(3, .int (nI (j17 + 1))), (1, .int (s17 + 0)), (0, .ref (ω.2.2 395)), (2, .int (nI j9))]) 3 dX12_clashes_55 rfl rfl (nI_succ j17).symm (rj_bl rfl) rfl ?_
        refine rj_goto dX12_clashes_58 rfl ?_
        have e : bX12_clashes_17 μ j9 s9 j17 s17 = (s17 + 0) := by unfold bX12_clashes_17; rw [if_pos h3]; try rfl
        exact rj_sub (l' := [(0, .ref (ω.2.2 395)), (1, .int (s17 + 0)), (2, .int (nI j9)), (3, .int (nI (j17 + 1)))]) [2, 1, 3, 0] rfl (ih (j17 + 1) (s17 + 0) (by omega) (by omega) (by rw [rj_fo_s, e] at K; exact K))
      · refine rj_aload_n 0 dX12_clashes_31 rfl rfl ?_
        refine rj_iload_n 3 dX12_clashes_32 rfl rfl ?_
        refine rj_cV (rest := [.int s17]) (sX12_isAct (g := g) (ω := ω) hω (rj_pi μ 395 0 0) (nI j17)   ) gX12_clashes_X12_isAct (rj_lt hω (k := 395) rfl) (rj_sh hω ly_395) rfl rfl hVX12_isAct ⟨Nat.le_of_ble_eq_true rfl, Nat.le_of_ble_eq_true rfl⟩ dX12_clashes_33 rfl rfl rfl (Nat.le_of_ble_eq_true rfl) rfl (Nat.le_of_ble_eq_true rfl) rfl ?_
        refine rj_if_eq dX12_clashes_36 rfl rfl (fun h4 => ?_) (fun h4 => ?_)
        · refine rj_iconst (v := 0) dX12_clashes_52 rfl (by decide) ?_
          refine rj_iadd dX12_clashes_53 rfl ?_
          refine rj_istore_n (l' := [(1, .int (s17 + 0)), (0, .ref (ω.2.2 395)), (2, .int (nI j9)), (3, .int (nI j17))]) dX12_clashes_54 rfl (rj_bl rfl) rfl ?_
          refine rj_iinc (v := nI (j17 + 1)) (l' := [(3, .int (nI (j17 + 1))), (1, .int (s17 + 0)), (0, .ref (ω.2.2 395)), (2, .int (nI j9))]) 3 dX12_clashes_55 rfl rfl (nI_succ j17).symm (rj_bl rfl) rfl ?_
          refine rj_goto dX12_clashes_58 rfl ?_
          have e : bX12_clashes_17 μ j9 s9 j17 s17 = (s17 + 0) := by unfold bX12_clashes_17; rw [if_neg h3]; rw [if_pos h4]; try rfl
          exact rj_sub (l' := [(0, .ref (ω.2.2 395)), (1, .int (s17 + 0)), (2, .int (nI j9)), (3, .int (nI (j17 + 1)))]) [2, 1, 3, 0] rfl (ih (j17 + 1) (s17 + 0) (by omega) (by omega) (by rw [rj_fo_s, e] at K; exact K))
        · refine rj_aload_n 0 dX12_clashes_39 rfl rfl ?_
          refine rj_iload_n 2 dX12_clashes_40 rfl rfl ?_
          refine rj_iload_n 3 dX12_clashes_41 rfl rfl ?_
          refine rj_cV (rest := [.int s17]) (sX12_areClashing (g := g) (ω := ω) hω (rj_pi μ 395 0 0) (nI j9) (nI j17)  (vp_in_nI hl9 (rj_bl rfl)) (rj_isAct h4) ) gX12_clashes_X12_areClashing (rj_lt hω (k := 395) rfl) (rj_sh hω ly_395) rfl rfl hVX12_areClashing ⟨Nat.le_of_ble_eq_true rfl, Nat.le_of_ble_eq_true rfl⟩ dX12_clashes_42 rfl rfl rfl (Nat.le_of_ble_eq_true rfl) rfl (Nat.le_of_ble_eq_true rfl) rfl ?_
          refine rj_if_eq dX12_clashes_45 rfl rfl (fun h5 => ?_) (fun h5 => ?_)
          · refine rj_iconst (v := 0) dX12_clashes_52 rfl (by decide) ?_
            refine rj_iadd dX12_clashes_53 rfl ?_
            refine rj_istore_n (l' := [(1, .int (s17 + 0)), (0, .ref (ω.2.2 395)), (2, .int (nI j9)), (3, .int (nI j17))]) dX12_clashes_54 rfl (rj_bl rfl) rfl ?_
            refine rj_iinc (v := nI (j17 + 1)) (l' := [(3, .int (nI (j17 + 1))), (1, .int (s17 + 0)), (0, .ref (ω.2.2 395)), (2, .int (nI j9))]) 3 dX12_clashes_55 rfl rfl (nI_succ j17).symm (rj_bl rfl) rfl ?_
            refine rj_goto dX12_clashes_58 rfl ?_
            have e : bX12_clashes_17 μ j9 s9 j17 s17 = (s17 + 0) := by unfold bX12_clashes_17; rw [if_neg h3]; rw [if_neg h4]; rw [if_pos h5]; try rfl
            exact rj_sub (l' := [(0, .ref (ω.2.2 395)), (1, .int (s17 + 0)), (2, .int (nI j9)), (3, .int (nI (j17 + 1)))]) [2, 1, 3, 0] rfl (ih (j17 + 1) (s17 + 0) (by omega) (by omega) (by rw [rj_fo_s, e] at K; exact K))
          · refine rj_iconst (v := 1) dX12_clashes_48 rfl (by decide) ?_
            refine rj_goto dX12_clashes_49 rfl ?_
            refine rj_iadd dX12_clashes_53 rfl ?_
            refine rj_istore_n (l' := [(1, .int (s17 + 1)), (0, .ref (ω.2.2 395)), (2, .int (nI j9)), (3, .int (nI j17))]) dX12_clashes_54 rfl (rj_bl rfl) rfl ?_
            refine rj_iinc (v := nI (j17 + 1)) (l' := [(3, .int (nI (j17 + 1))), (1, .int (s17 + 1)), (0, .ref (ω.2.2 395)), (2, .int (nI j9))]) 3 dX12_clashes_55 rfl rfl (nI_succ j17).symm (rj_bl rfl) rfl ?_
            refine rj_goto dX12_clashes_58 rfl ?_
            have e : bX12_clashes_17 μ j9 s9 j17 s17 = (s17 + 1) := by unfold bX12_clashes_17; rw [if_neg h3]; rw [if_neg h4]; rw [if_neg h5]; try rfl
            exact rj_sub (l' := [(0, .ref (ω.2.2 395)), (1, .int (s17 + 1)), (2, .int (nI j9)), (3, .int (nI (j17 + 1)))]) [2, 1, 3, 0] rfl (ih (j17 + 1) (s17 + 1) (by omega) (by omega) (by rw [rj_fo_s, e] at K; exact K))
noncomputable def bX12_clashes_9 (μ : rj_M) (j9 : Nat) (s9 : Int32) : Int32 := (rj_fo (bX12_clashes_17 μ j9 s9) ((nI j9).toInt.toNat - 0) 0 s9)
set_option maxHeartbeats 4000000 in
set_option maxRecDepth 100000 in
theorem lX12_clashes_9 {g : rj_G} {ω : rj_W} (hω : rj_ok ω) (μ : rj_M)      {F : rj_F} : ∀ (r j : Nat) (s : Int32), j + r = 16 → (rj_R g RX12 cX12_clashes 4 (some .int) wsX12_clashes [] (rj_rm 4 0) F 0 ω (rj_pi μ 395 0 0) [(0, .ref (ω.2.2 395)), (1, .int (rj_fo (bX12_clashes_9 μ) r j s)), (2, .int (nI 16))] 67 []) → rj_R g RX12 cX12_clashes 4 (some .int) wsX12_clashes [] (rj_rm 4 0) F 0 ω (rj_pi μ 395 0 0) [(0, .ref (ω.2.2 395)), (1, .int s), (2, .int (nI j))] 9 [] := by
  intro r
  induction r with
  | zero =>
    intro j s hj K
    have e0 : j = 16 := by omega
    have hge : 16 ≤ nI j := by
      rw [e0]
      exact Int32.le_refl _
    refine rj_iload_n 2 dX12_clashes_9 rfl rfl ?_
    refine rj_bipush (v := 16) dX12_clashes_10 rfl (by decide) ?_
    refine rj_icmp_ge dX12_clashes_12 rfl rfl (fun h7 => ?_) (fun h7 => ?_)
    · have e1 : nI j = nI 16 := by rw [e0]
      rw [e1]
      exact K
    · exact absurd hge h7
  | succ r ih =>
    intro j9 s9 hj K
    have hl9 : j9 < 16 := by omega
    have hg9 : ¬ 16 ≤ nI j9 := nI_ge hl9 (rj_bl rfl)
    refine rj_iload_n 2 dX12_clashes_9 rfl rfl ?_
    refine rj_bipush (v := 16) dX12_clashes_10 rfl (by decide) ?_
    refine rj_icmp_ge dX12_clashes_12 rfl rfl (fun h1 => ?_) (fun h1 => ?_)
    · exact absurd h1 hg9
    · refine rj_iconst (v := 0) dX12_clashes_15 rfl (by decide) ?_
      refine rj_istore_n (l' := [(3, .int 0), (0, .ref (ω.2.2 395)), (1, .int s9), (2, .int (nI j9))]) dX12_clashes_16 rfl (rj_bl rfl) rfl ?_
      refine rj_sub (l' := [(0, .ref (ω.2.2 395)), (1, .int s9), (2, .int (nI j9)), (3, .int (nI 0))]) [1, 2, 3, 0] rfl ?_
      refine lX12_clashes_17 hω μ j9 s9   hl9  h1 ((nI j9).toInt.toNat - 0) 0 s9 rfl (rj_bl rfl) ?_
      refine rj_iinc (v := nI (j9 + 1)) (l' := [(2, .int (nI (j9 + 1))), (0, .ref (ω.2.2 395)), (1, .int (rj_fo (bX12_clashes_17 μ j9 s9) ((nI j9).toInt.toNat - 0) 0 s9))]) 2 dX12_clashes_61 rfl rfl (nI_succ j9).symm (rj_bl rfl) rfl ?_
      refine rj_goto dX12_clashes_64 rfl ?_
      have e : bX12_clashes_9 μ j9 s9 = (rj_fo (bX12_clashes_17 μ j9 s9) ((nI j9).toInt.toNat - 0) 0 s9) := by unfold bX12_clashes_9; rfl
      revert e
      generalize (rj_fo (bX12_clashes_17 μ j9 s9) ((nI j9).toInt.toNat - 0) 0 s9) = gA0
      intro e
      exact rj_sub (l' := [(0, .ref (ω.2.2 395)), (1, .int gA0), (2, .int (nI (j9 + 1)))]) [1, 2, 0] rfl (ih (j9 + 1) gA0 (by omega) (by rw [rj_fo_s, e] at K; exact K))
noncomputable def fX12_clashes (μ : rj_M) : Int32 := (rj_fo (bX12_clashes_9 μ) 16 0 0)
noncomputable def mX12_clashes (μ : rj_M) : rj_M := (rj_pi μ 395 0 0)
set_option maxHeartbeats 40000000 in
set_option maxRecDepth 100000 in
theorem sX12_clashes {g : rj_G} {ω : rj_W} (hω : rj_ok ω) (μ : rj_M)   : rj_Sp g yX12_clashes wsX12_clashes (rj_rm 4 0) [.ref (ω.2.2 395)] ω μ (rj_D (.inl (some (.int (fX12_clashes μ)))) ω (mX12_clashes μ)) := by
  refine rj_of' (cc := cX12_clashes) (nL := 4) (ret := (some .int)) (own := RX12) (l0 := [(0, .ref (ω.2.2 395))]) rfl (by decide +kernel) rfl (Nat.le_of_ble_eq_true rfl) rfl ?_
  refine rj_aload_n 0 dX12_clashes_0 rfl rfl ?_
  refine rj_iconst (v := 0) dX12_clashes_1 rfl (by decide) ?_
  refine rj_putI (C0 := RX12) (T := TX12) (N := 16) (j := 0) dX12_clashes_2 rfl vX12_clashes_12 rfl (rj_lt hω (k := 395) rfl) (rj_sh hω ly_395) (by decide) kX12_clashes_39 tyX12 tyX12_ok nmX12 rfl rfl rfl rfl ?_
  refine rj_iconst (v := 0) dX12_clashes_5 rfl (by decide) ?_
  refine rj_istore_n (l' := [(1, .int 0), (0, .ref (ω.2.2 395))]) dX12_clashes_6 rfl (rj_bl rfl) rfl ?_
  refine rj_iconst (v := 0) dX12_clashes_7 rfl (by decide) ?_
  refine rj_istore_n (l' := [(2, .int 0), (1, .int 0), (0, .ref (ω.2.2 395))]) dX12_clashes_8 rfl (rj_bl rfl) rfl ?_
  refine rj_sub (l' := [(0, .ref (ω.2.2 395)), (1, .int 0), (2, .int (nI 0))]) [2, 1, 0] rfl ?_
  refine lX12_clashes_9 hω μ      16 0 0 rfl ?_
  refine rj_iload_n 1 dX12_clashes_67 rfl rfl ?_
  exact rj_iret dX12_clashes_68 rfl (Nat.le_of_ble_eq_true rfl) (Nat.le_of_ble_eq_true rfl) ⟨(by unfold fX12_clashes; rfl), rfl, (by unfold mX12_clashes; rfl)⟩
