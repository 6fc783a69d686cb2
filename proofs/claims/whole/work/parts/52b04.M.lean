theorem hSX12_waitsInLines : yX12_waitsInLines.cls ≠ "java/lang/invoke/MethodHandle" ∧ yX12_waitsInLines.cls ≠ "java/lang/invoke/VarHandle" ∧ (parseMethodDescriptor yX12_waitsInLines.desc).map (fun d => d.parameters.length) = some 0 := by decide +kernel
theorem hVX12_waitsInLines : yX12_waitsInLines.cls = RX12 ∧ yX12_waitsInLines.cls ≠ "java/lang/invoke/MethodHandle" ∧ yX12_waitsInLines.cls ≠ "java/lang/invoke/VarHandle" ∧ (parseMethodDescriptor yX12_waitsInLines.desc).map (fun d => d.parameters.length) = some 0 := by decide +kernel
noncomputable def bX12_waitsInLines_11 (μ : rj_M) (j4 : Nat) (s4 : Int32) (j11 : Nat) (s11 : Int32) : Int32 := (s11 + (fX12_waitAt μ (nI j4) (nI j11)))
set_option maxHeartbeats 4000000 in
set_option maxRecDepth 100000 in
theorem lX12_waitsInLines_11 {g : rj_G} {ω : rj_W} (hω : rj_ok ω) (μ : rj_M) (j4 : Nat) (s4 : Int32)   (hl4 : j4 < 3)  (h1 : ¬ (3 ≤ nI j4)) {F : rj_F} : ∀ (r j : Nat) (s : Int32), r = (fX12_lineOf μ (nI j4)).toInt.toNat - j → j < 2 ^ 31 → (rj_R g RX12 cX12_waitsInLines 4 (some .int) wsX12_waitsInLines [] (rj_rm 1 0) F 0 ω μ [(0, .ref (ω.2.2 395)), (1, .int (rj_fo (bX12_waitsInLines_11 μ j4 s4) r j s)), (2, .int (nI j4))] 35 []) → rj_R g RX12 cX12_waitsInLines 4 (some .int) wsX12_waitsInLines [] (rj_rm 1 0) F 0 ω μ [(0, .ref (ω.2.2 395)), (1, .int s), (2, .int (nI j4)), (3, .int (nI j))] 11 [] := by
  intro r
  induction r with
  | zero =>
    intro j s hj hJ K
    have e0 : (fX12_lineOf μ (nI j4)).toInt.toNat ≤ j := by omega
    have hge : (fX12_lineOf μ (nI j4)) ≤ nI j := (rj_leN hJ).mpr e0
    refine rj_iload_n 3 dX12_waitsInLines_11 rfl rfl ?_
    refine rj_aload_n 0 dX12_waitsInLines_12 rfl rfl ?_
    refine rj_iload_n 2 dX12_waitsInLines_13 rfl rfl ?_
    refine rj_cV (rest := [.int (nI j)]) (sX12_lineOf (g := g) (ω := ω) hω μ (nI j4)  (vp_in_nI hl4 (rj_bl rfl)) ) gX12_waitsInLines_X12_lineOf (rj_lt hω (k := 395) rfl) (rj_sh hω ly_395) rfl rfl hVX12_lineOf ⟨Nat.le_of_ble_eq_true rfl, Nat.le_of_ble_eq_true rfl⟩ dX12_waitsInLines_14 rfl rfl rfl (Nat.le_of_ble_eq_true rfl) rfl (Nat.le_of_ble_eq_true rfl) rfl ?_
    refine rj_icmp_ge dX12_waitsInLines_17 rfl rfl (fun h3 => ?_) (fun h3 => ?_)
    · refine rj_sub (l' := [(0, .ref (ω.2.2 395)), (1, .int s), (2, .int (nI j4))]) [0, 1, 2] rfl ?_
      exact K
    · exact absurd hge h3
  | succ r ih =>
    intro j11 s11 hj hJ K
    have hl11 : j11 < (fX12_lineOf μ (nI j4)).toInt.toNat := by omega
    have hg11 : ¬ (fX12_lineOf μ (nI j4)) ≤ nI j11 := fun z => absurd ((rj_leN hJ).mp z) (by omega)
    have hN := rj_tN (fX12_lineOf μ (nI j4))
    refine rj_iload_n 3 dX12_waitsInLines_11 rfl rfl ?_
    refine rj_aload_n 0 dX12_waitsInLines_12 rfl rfl ?_
    refine rj_iload_n 2 dX12_waitsInLines_13 rfl rfl ?_
    refine rj_cV (rest := [.int (nI j11)]) (sX12_lineOf (g := g) (ω := ω) hω μ (nI j4)  (vp_in_nI hl4 (rj_bl rfl)) ) gX12_waitsInLines_X12_lineOf (rj_lt hω (k := 395) rfl) (rj_sh hω ly_395) rfl rfl hVX12_lineOf ⟨Nat.le_of_ble_eq_true rfl, Nat.le_of_ble_eq_true rfl⟩ dX12_waitsInLines_14 rfl rfl rfl (Nat.le_of_ble_eq_true rfl) rfl (Nat.le_of_ble_eq_true rfl) rfl ?_
    refine rj_icmp_ge dX12_waitsInLines_17 rfl rfl (fun h2 => ?_) (fun h2 => ?_)
    · exact absurd h2 hg11
    · refine rj_iload_n 1 dX12_waitsInLines_20 rfl rfl ?_
      refine rj_aload_n 0 dX12_waitsInLines_21 rfl rfl ?_
      refine rj_iload_n 2 dX12_waitsInLines_22 rfl rfl ?_
      refine rj_iload_n 3 dX12_waitsInLines_23 rfl rfl ?_
      refine rj_cV (rest := [.int s11]) (sX12_waitAt (g := g) (ω := ω) hω μ (nI j4) (nI j11)  (vp_in_nI hl4 (rj_bl rfl)) ) gX12_waitsInLines_X12_waitAt (rj_lt hω (k := 395) rfl) (rj_sh hω ly_395) rfl rfl hVX12_waitAt ⟨Nat.le_of_ble_eq_true rfl, Nat.le_of_ble_eq_true rfl⟩ dX12_waitsInLines_24 rfl rfl rfl (Nat.le_of_ble_eq_true rfl) rfl (Nat.le_of_ble_eq_true rfl) rfl ?_
      refine rj_iadd dX12_waitsInLines_27 rfl ?_
      refine rj_istore_n (l' := [(1, .int (s11 + (fX12_waitAt μ (nI j4) (nI j11)))), (0, .ref (ω.2.2 395)), (2, .int (nI j4)), (3, .int (nI j11))]) dX12_waitsInLines_28 rfl (rj_bl rfl) rfl ?_
      refine rj_iinc (v := nI (j11 + 1)) (l' := [(3, .int (nI (j11 + 1))), (1, .int (s11 + (fX12_waitAt μ (nI j4) (nI j11)))), (0, .ref (ω.2.2 395)), (2, .int (nI j4))]) 3 dX12_waitsInLines_29 rfl rfl (nI_succ j11).symm (rj_bl rfl) rfl ?_
      refine rj_goto dX12_waitsInLines_32 rfl ?_
      have e : bX12_waitsInLines_11 μ j4 s4 j11 s11 = (s11 + (fX12_waitAt μ (nI j4) (nI j11))) := by unfold bX12_waitsInLines_11; rfl
      exact rj_sub (l' := [(0, .ref (ω.2.2 395)), (1, .int (s11 + (fX12_waitAt μ (nI j4) (nI j11)))), (2, .int (nI j4)), (3, .int (nI (j11 + 1)))]) [2, 1, 3, 0] rfl (ih (j11 + 1) (s11 + (fX12_waitAt μ (nI j4) (nI j11))) (by omega) (by omega) (by rw [rj_fo_s (r := r), e] at K; exact K))
noncomputable def bX12_waitsInLines_4 (μ : rj_M) (j4 : Nat) (s4 : Int32) : Int32 := (rj_fo (bX12_waitsInLines_11 μ j4 s4) ((fX12_lineOf μ (nI j4)).toInt.toNat - 0) 0 s4)
set_option maxHeartbeats 4000000 in
set_option maxRecDepth 100000 in
theorem lX12_waitsInLines_4 {g : rj_G} {ω : rj_W} (hω : rj_ok ω) (μ : rj_M)      {F : rj_F} : ∀ (r j : Nat) (s : Int32), j + r = 3 → (rj_R g RX12 cX12_waitsInLines 4 (some .int) wsX12_waitsInLines [] (rj_rm 1 0) F 0 ω μ [(0, .ref (ω.2.2 395)), (1, .int (rj_fo (bX12_waitsInLines_4 μ) r j s)), (2, .int (nI 3))] 41 []) → rj_R g RX12 cX12_waitsInLines 4 (some .int) wsX12_waitsInLines [] (rj_rm 1 0) F 0 ω μ [(0, .ref (ω.2.2 395)), (1, .int s), (2, .int (nI j))] 4 [] := by
  intro r
  induction r with
  | zero =>
    intro j s hj K
    have e0 : j = 3 := by omega
    have hge : 3 ≤ nI j := by
      rw [e0]
      exact Int32.le_refl _
    refine rj_iload_n 2 dX12_waitsInLines_4 rfl rfl ?_
    refine rj_iconst (v := 3) dX12_waitsInLines_5 rfl (by decide) ?_
    refine rj_icmp_ge dX12_waitsInLines_6 rfl rfl (fun h4 => ?_) (fun h4 => ?_)
    · have e1 : nI j = nI 3 := by rw [e0]
      rw [e1]
      exact K
    · exact absurd hge h4
  | succ r ih =>
    intro j4 s4 hj K
    have hl4 : j4 < 3 := by omega
    have hg4 : ¬ 3 ≤ nI j4 := nI_ge hl4 (rj_bl rfl)
    refine rj_iload_n 2 dX12_waitsInLines_4 rfl rfl ?_
    refine rj_iconst (v := 3) dX12_waitsInLines_5 rfl (by decide) ?_
    refine rj_icmp_ge dX12_waitsInLines_6 rfl rfl (fun h1 => ?_) (fun h1 => ?_)
    · exact absurd h1 hg4
    · refine rj_iconst (v := 0) dX12_waitsInLines_9 rfl (by decide) ?_
      refine rj_istore_n (l' := [(3, .int 0), (0, .ref (ω.2.2 395)), (1, .int s4), (2, .int (nI j4))]) dX12_waitsInLines_10 rfl (rj_bl rfl) rfl ?_
      refine rj_sub (l' := [(0, .ref (ω.2.2 395)), (1, .int s4), (2, .int (nI j4)), (3, .int (nI 0))]) [1, 2, 3, 0] rfl ?_
      refine lX12_waitsInLines_11 hω μ j4 s4   hl4  h1 ((fX12_lineOf μ (nI j4)).toInt.toNat - 0) 0 s4 rfl (rj_bl rfl) ?_
      refine rj_iinc (v := nI (j4 + 1)) (l' := [(2, .int (nI (j4 + 1))), (0, .ref (ω.2.2 395)), (1, .int (rj_fo (bX12_waitsInLines_11 μ j4 s4) ((fX12_lineOf μ (nI j4)).toInt.toNat - 0) 0 s4))]) 2 dX12_waitsInLines_35 rfl rfl (nI_succ j4).symm (rj_bl rfl) rfl ?_
      refine rj_goto dX12_waitsInLines_38 rfl ?_
      have e : bX12_waitsInLines_4 μ j4 s4 = (rj_fo (bX12_waitsInLines_11 μ j4 s4) ((fX12_lineOf μ (nI j4)).toInt.toNat - 0) 0 s4) := by unfold bX12_waitsInLines_4; rfl
      revert e
      generalize (rj_fo (bX12_waitsInLines_11 μ j4 s4) ((fX12_lineOf μ (nI j4)).toInt.toNat - 0) 0 s4) = gA0
      intro e
      exact rj_sub (l' := [(0, .ref (ω.2.2 395)), (1, .int gA0), (2, .int (nI (j4 + 1)))]) [1, 2, 0] rfl (ih (j4 + 1) gA0 (by omega) (by rw [rj_fo_s (r := r), e] at K; exact K))
noncomputable def fX12_waitsInLines (μ : rj_M) : Int32 := (rj_fo (bX12_waitsInLines_4 μ) 3 0 0)
set_option maxHeartbeats 40000000 in
set_option maxRecDepth 100000 in
theorem sX12_waitsInLines {g : rj_G} {ω : rj_W} (hω : rj_ok ω) (μ : rj_M)   : rj_Sp g yX12_waitsInLines wsX12_waitsInLines (rj_rm 1 0) [.ref (ω.2.2 395)] ω μ (rj_D (.inl (some (.int (fX12_waitsInLines μ)))) ω μ) := by
  refine rj_of' (cc := cX12_waitsInLines) (nL := 4) (ret := (some .int)) (own := RX12) (l0 := [(0, .ref (ω.2.2 395))]) rfl (by decide +kernel) rfl (Nat.le_of_ble_eq_true rfl) rfl ?_
  refine rj_iconst (v := 0) dX12_waitsInLines_0 rfl (by decide) ?_
  refine rj_istore_n (l' := [(1, .int 0), (0, .ref (ω.2.2 395))]) dX12_waitsInLines_1 rfl (rj_bl rfl) rfl ?_
  refine rj_iconst (v := 0) dX12_waitsInLines_2 rfl (by decide) ?_
  refine rj_istore_n (l' := [(2, .int 0), (1, .int 0), (0, .ref (ω.2.2 395))]) dX12_waitsInLines_3 rfl (rj_bl rfl) rfl ?_
  refine rj_sub (l' := [(0, .ref (ω.2.2 395)), (1, .int 0), (2, .int (nI 0))]) [2, 1, 0] rfl ?_
  refine lX12_waitsInLines_4 hω μ      3 0 0 rfl ?_
  refine rj_iload_n 1 dX12_waitsInLines_41 rfl rfl ?_
  exact rj_iret dX12_waitsInLines_42 rfl (Nat.le_of_ble_eq_true rfl) (Nat.le_of_ble_eq_true rfl) ⟨(by unfold fX12_waitsInLines; rfl), rfl, rfl⟩
theorem hSX12_nextBehind : yX12_nextBehind.cls ≠ "java/lang/invoke/MethodHandle" ∧ yX12_nextBehind.cls ≠ "java/lang/invoke/VarHandle" ∧ (parseMethodDescriptor yX12_nextBehind.desc).map (fun d => d.parameters.length) = some 1 := by decide +kernel
theorem hVX12_nextBehind : yX12_nextBehind.cls = RX12 ∧ yX12_nextBehind.cls ≠ "java/lang/invoke/MethodHandle" ∧ yX12_nextBehind.cls ≠ "java/lang/invoke/VarHandle" ∧ (parseMethodDescriptor yX12_nextBehind.desc).map (fun d => d.parameters.length) = some 1 := by decide +kernel
theorem vX12_nextBehind_12 : ∀ w ∈ u_ws RX12 TX12 16, w ∈ wsX12_nextBehind := by decide +kernel
theorem kX12_nextBehind_9 : Cond.fieldLink RX12 9 (TX12 1).1 (TX12 1).2.1 (TX12 1).2.2.1 ∈ wsX12_nextBehind := by decide +kernel
noncomputable def bX12_nextBehind_12 (μ : rj_M) (a0 : Int32) (j4 : Nat) (s4 : Int32) (j12 : Nat) (s12 : Int32) : Int32 := (if (μ.1 396 (373 + (fX12_inLine μ (nI j4) (nI j12))).toNatClampNeg) ≤ a0 then s12 else (if s12 = (-1) then (fX12_inLine μ (nI j4) (nI j12)) else (if (μ.1 396 (373 + s12).toNatClampNeg) ≤ (μ.1 396 (373 + (fX12_inLine μ (nI j4) (nI j12))).toNatClampNeg) then s12 else (fX12_inLine μ (nI j4) (nI j12)))))
noncomputable def qX12_nextBehind_12 (μ : rj_M) (a0 : Int32) (j4 : Nat) (s4 : Int32) (j12 : Nat) (s12 : Int32) : Prop := (vp_in (nI j12) 12 ∧ vp_in (373 + (fX12_inLine μ (nI j4) (nI j12))) 625 ∧ ((((μ.1 396 (373 + (fX12_inLine μ (nI j4) (nI j12))).toNatClampNeg) ≤ a0) → True) ∧ ((¬ ((μ.1 396 (373 + (fX12_inLine μ (nI j4) (nI j12))).toNatClampNeg) ≤ a0)) → (((s12 = (-1)) → True) ∧ ((¬ (s12 = (-1))) → (vp_in (373 + (fX12_inLine μ (nI j4) (nI j12))) 625 ∧ vp_in (373 + s12) 625 ∧ True))))))
set_option maxHeartbeats 4000000 in
set_option maxRecDepth 100000 in
theorem lX12_nextBehind_12 {g : rj_G} {ω : rj_W} (hω : rj_ok ω) (μ : rj_M) (a0 : Int32) (j4 : Nat) (s4 : Int32)   (hl4 : j4 < 3)  (h1 : ¬ (3 ≤ nI j4)) {F : rj_F} : ∀ (r j : Nat) (s : Int32), r = (fX12_lineOf μ (nI j4)).toInt.toNat - j → j < 2 ^ 31 → (True → ra_fo (qX12_nextBehind_12 μ a0 j4 s4) (bX12_nextBehind_12 μ a0 j4 s4) r j s) → (rj_R g RX12 cX12_nextBehind 6 (some .int) wsX12_nextBehind [] (rj_rm 1 0) F 0 ω μ [(0, .ref (ω.2.2 395)), (1, .int a0), (2, .int (rj_fo (bX12_nextBehind_12 μ a0 j4 s4) r j s)), (3, .int (nI j4))] 84 []) → rj_R g RX12 cX12_nextBehind 6 (some .int) wsX12_nextBehind [] (rj_rm 1 0) F 0 ω μ [(0, .ref (ω.2.2 395)), (1, .int a0), (2, .int s), (3, .int (nI j4)), (4, .int (nI j))] 12 [] := by
  intro r
  induction r with
  | zero =>
    intro j s hj hJ hq0 K
    have e0 : (fX12_lineOf μ (nI j4)).toInt.toNat ≤ j := by omega
    have hge : (fX12_lineOf μ (nI j4)) ≤ nI j := (rj_leN hJ).mpr e0
    refine rj_iload 4 dX12_nextBehind_12 rfl rfl ?_
    refine rj_aload_n 0 dX12_nextBehind_14 rfl rfl ?_
    refine rj_iload_n 3 dX12_nextBehind_15 rfl rfl ?_
    refine rj_cV (rest := [.int (nI j)]) (sX12_lineOf (g := g) (ω := ω) hω μ (nI j4)  (vp_in_nI hl4 (rj_bl rfl)) ) gX12_nextBehind_X12_lineOf (rj_lt hω (k := 395) rfl) (rj_sh hω ly_395) rfl rfl hVX12_lineOf ⟨Nat.le_of_ble_eq_true rfl, Nat.le_of_ble_eq_true rfl⟩ dX12_nextBehind_16 rfl rfl rfl (Nat.le_of_ble_eq_true rfl) rfl (Nat.le_of_ble_eq_true rfl) rfl ?_
    refine rj_icmp_ge dX12_nextBehind_19 rfl rfl (fun h6 => ?_) (fun h6 => ?_)
    · refine rj_sub (l' := [(0, .ref (ω.2.2 395)), (1, .int a0), (2, .int s), (3, .int (nI j4))]) [0, 1, 2, 3] rfl ?_
      exact K
    · exact absurd hge h6
  | succ r ih =>
    intro j12 s12 hj hJ hq0 K
    have hl12 : j12 < (fX12_lineOf μ (nI j4)).toInt.toNat := by omega
    have hg12 : ¬ (fX12_lineOf μ (nI j4)) ≤ nI j12 := fun z => absurd ((rj_leN hJ).mp z) (by omega)
    have hN := rj_tN (fX12_lineOf μ (nI j4))
    have hqa := ra_fo_q (hq0 True.intro)
    unfold qX12_nextBehind_12 at hqa
    refine rj_iload 4 dX12_nextBehind_12 rfl rfl ?_
    refine rj_aload_n 0 dX12_nextBehind_14 rfl rfl ?_
    refine rj_iload_n 3 dX12_nextBehind_15 rfl rfl ?_
    refine rj_cV (rest := [.int (nI j12)]) (sX12_lineOf (g := g) (ω := ω) hω μ (nI j4)  (vp_in_nI hl4 (rj_bl rfl)) ) gX12_nextBehind_X12_lineOf (rj_lt hω (k := 395) rfl) (rj_sh hω ly_395) rfl rfl hVX12_lineOf ⟨Nat.le_of_ble_eq_true rfl, Nat.le_of_ble_eq_true rfl⟩ dX12_nextBehind_16 rfl rfl rfl (Nat.le_of_ble_eq_true rfl) rfl (Nat.le_of_ble_eq_true rfl) rfl ?_
    refine rj_icmp_ge dX12_nextBehind_19 rfl rfl (fun h2 => ?_) (fun h2 => ?_)
    · exact absurd h2 hg12
    · refine rj_aload_n 0 dX12_nextBehind_22 rfl rfl ?_
      refine rj_iload_n 3 dX12_nextBehind_23 rfl rfl ?_
      refine rj_iload 4 dX12_nextBehind_24 rfl rfl ?_
      refine rj_cV (rest := []) (sX12_inLine (g := g) (ω := ω) hω μ (nI j4) (nI j12)  (vp_in_nI hl4 (rj_bl rfl)) (And.left hqa) ) gX12_nextBehind_X12_inLine (rj_lt hω (k := 395) rfl) (rj_sh hω ly_395) rfl rfl hVX12_inLine ⟨Nat.le_of_ble_eq_true rfl, Nat.le_of_ble_eq_true rfl⟩ dX12_nextBehind_26 rfl rfl rfl (Nat.le_of_ble_eq_true rfl) rfl (Nat.le_of_ble_eq_true rfl) rfl ?_
      refine rj_istore (l' := [(5, .int (fX12_inLine μ (nI j4) (nI j12))), (0, .ref (ω.2.2 395)), (1, .int a0), (2, .int s12), (3, .int (nI j4)), (4, .int (nI j12))]) dX12_nextBehind_29 rfl (rj_bl rfl) rfl ?_
      refine rj_aload_n 1 dX12_nextBehind_31 rfl rfl ?_
      refine rj_getR (C0 := RX12) (T := TX12) (N := 16) (j := 1) (r := 396) dX12_nextBehind_32 rfl vX12_nextBehind_12 rfl (rj_lt hω (k := 395) rfl) (rj_sh hω ly_395) (by decide) kX12_nextBehind_9 rfl ?_
      refine rj_sipush (v := 373) dX12_nextBehind_35 rfl (by decide) ?_
      refine rj_iload 0 dX12_nextBehind_38 rfl rfl ?_
      refine rj_iadd dX12_nextBehind_40 rfl ?_
      refine rj_iald dX12_nextBehind_41 rfl (rj_lt hω (k := 396) rfl) (rj_sh hω ly_396) (And.left (And.right hqa)) ?_
      refine rj_iload_n 2 dX12_nextBehind_42 rfl rfl ?_
      refine rj_icmp_le dX12_nextBehind_43 rfl rfl (fun h3 => ?_) (fun h3 => ?_)
      · skip
        refine rj_iinc (v := nI (j12 + 1)) (l' := [(4, .int (nI (j12 + 1))), (5, .int (fX12_inLine μ (nI j4) (nI j12))), (0, .ref (ω.2.2 395)), (1, .int a0), (2, .int s12), (3, .int (nI j4))]) 5 dX12_nextBehind_78 rfl rfl (nI_succ j12).symm (rj_bl rfl) rfl ?_
        refine rj_goto dX12_nextBehind_81 rfl ?_
        have e : bX12_nextBehind_12 μ a0 j4 s4 j12 s12 = s12 := by unfold bX12_nextBehind_12; rw [if_pos h3]; try rfl
        exact rj_sub (l' := [(0, .ref (ω.2.2 395)), (1, .int a0), (2, .int s12), (3, .int (nI j4)), (4, .int (nI (j12 + 1)))]) [2, 3, 4, 5, 0] rfl (ih (j12 + 1) s12 (by omega) (by omega) (fun _ => ra_fo_n (hq0 True.intro) e) (by rw [rj_fo_s (r := r), e] at K; exact K))
      · have hq2 := (And.right (And.right (And.right hqa))) h3
        refine rj_iload_n 3 dX12_nextBehind_46 rfl rfl ?_
        refine rj_iconst (v := (-1)) dX12_nextBehind_47 rfl (by decide) ?_
        refine rj_icmp_eq dX12_nextBehind_48 rfl rfl (fun h4 => ?_) (fun h4 => ?_)
        · skip
          refine rj_iload 0 dX12_nextBehind_75 rfl rfl ?_
          refine rj_istore_n (l' := [(2, .int (fX12_inLine μ (nI j4) (nI j12))), (5, .int (fX12_inLine μ (nI j4) (nI j12))), (0, .ref (ω.2.2 395)), (1, .int a0), (3, .int (nI j4)), (4, .int (nI j12))]) dX12_nextBehind_77 rfl (rj_bl rfl) rfl ?_
          refine rj_iinc (v := nI (j12 + 1)) (l' := [(4, .int (nI (j12 + 1))), (2, .int (fX12_inLine μ (nI j4) (nI j12))), (5, .int (fX12_inLine μ (nI j4) (nI j12))), (0, .ref (ω.2.2 395)), (1, .int a0), (3, .int (nI j4))]) 5 dX12_nextBehind_78 rfl rfl (nI_succ j12).symm (rj_bl rfl) rfl ?_
          refine rj_goto dX12_nextBehind_81 rfl ?_
          have e : bX12_nextBehind_12 μ a0 j4 s4 j12 s12 = (fX12_inLine μ (nI j4) (nI j12)) := by unfold bX12_nextBehind_12; rw [if_neg h3]; rw [if_pos h4]; try rfl
          exact rj_sub (l' := [(0, .ref (ω.2.2 395)), (1, .int a0), (2, .int (fX12_inLine μ (nI j4) (nI j12))), (3, .int (nI j4)), (4, .int (nI (j12 + 1)))]) [3, 4, 1, 5, 0] rfl (ih (j12 + 1) (fX12_inLine μ (nI j4) (nI j12)) (by omega) (by omega) (fun _ => ra_fo_n (hq0 True.intro) e) (by rw [rj_fo_s (r := r), e] at K; exact K))
        · have hq4 := (And.right hq2) h4
          refine rj_aload_n 1 dX12_nextBehind_51 rfl rfl ?_
          refine rj_getR (C0 := RX12) (T := TX12) (N := 16) (j := 1) (r := 396) dX12_nextBehind_52 rfl vX12_nextBehind_12 rfl (rj_lt hω (k := 395) rfl) (rj_sh hω ly_395) (by decide) kX12_nextBehind_9 rfl ?_
          refine rj_sipush (v := 373) dX12_nextBehind_55 rfl (by decide) ?_
          refine rj_iload 0 dX12_nextBehind_58 rfl rfl ?_
          refine rj_iadd dX12_nextBehind_60 rfl ?_
          refine rj_iald dX12_nextBehind_61 rfl (rj_lt hω (k := 396) rfl) (rj_sh hω ly_396) (And.left hq4) ?_
          refine rj_aload_n 1 dX12_nextBehind_62 rfl rfl ?_
          refine rj_getR (C0 := RX12) (T := TX12) (N := 16) (j := 1) (r := 396) dX12_nextBehind_63 rfl vX12_nextBehind_12 rfl (rj_lt hω (k := 395) rfl) (rj_sh hω ly_395) (by decide) kX12_nextBehind_9 rfl ?_
          refine rj_sipush (v := 373) dX12_nextBehind_66 rfl (by decide) ?_
          refine rj_iload_n 3 dX12_nextBehind_69 rfl rfl ?_
          refine rj_iadd dX12_nextBehind_70 rfl ?_
          refine rj_iald dX12_nextBehind_71 rfl (rj_lt hω (k := 396) rfl) (rj_sh hω ly_396) (And.left (And.right hq4)) ?_
          refine rj_icmp_ge dX12_nextBehind_72 rfl rfl (fun h5 => ?_) (fun h5 => ?_)
          · skip
            refine rj_iinc (v := nI (j12 + 1)) (l' := [(4, .int (nI (j12 + 1))), (5, .int (fX12_inLine μ (nI j4) (nI j12))), (0, .ref (ω.2.2 395)), (1, .int a0), (2, .int s12), (3, .int (nI j4))]) 5 dX12_nextBehind_78 rfl rfl (nI_succ j12).symm (rj_bl rfl) rfl ?_
            refine rj_goto dX12_nextBehind_81 rfl ?_
            have e : bX12_nextBehind_12 μ a0 j4 s4 j12 s12 = s12 := by unfold bX12_nextBehind_12; rw [if_neg h3]; rw [if_neg h4]; rw [if_pos h5]; try rfl
            exact rj_sub (l' := [(0, .ref (ω.2.2 395)), (1, .int a0), (2, .int s12), (3, .int (nI j4)), (4, .int (nI (j12 + 1)))]) [2, 3, 4, 5, 0] rfl (ih (j12 + 1) s12 (by omega) (by omega) (fun _ => ra_fo_n (hq0 True.intro) e) (by rw [rj_fo_s (r := r), e] at K; exact K))
          · skip
            refine rj_iload 0 dX12_nextBehind_75 rfl rfl ?_
            refine rj_istore_n (l' := [(2, .int (fX12_inLine μ (nI j4) (nI j12))), (5, .int (fX12_inLine μ (nI j4) (nI j12))), (0, .ref (ω.2.2 395)), (1, .int a0), (3, .int (nI j4)), (4, .int (nI j12))]) dX12_nextBehind_77 rfl (rj_bl rfl) rfl ?_
            refine rj_iinc (v := nI (j12 + 1)) (l' := [(4, .int (nI (j12 + 1))), (2, .int (fX12_inLine μ (nI j4) (nI j12))), (5, .int (fX12_inLine μ (nI j4) (nI j12))), (0, .ref (ω.2.2 395)), (1, .int a0), (3, .int (nI j4))]) 5 dX12_nextBehind_78 rfl rfl (nI_succ j12).symm (rj_bl rfl) rfl ?_
            refine rj_goto dX12_nextBehind_81 rfl ?_
            have e : bX12_nextBehind_12 μ a0 j4 s4 j12 s12 = (fX12_inLine μ (nI j4) (nI j12)) := by unfold bX12_nextBehind_12; rw [if_neg h3]; rw [if_neg h4]; rw [if_neg h5]; try rfl
            exact rj_sub (l' := [(0, .ref (ω.2.2 395)), (1, .int a0), (2, .int (fX12_inLine μ (nI j4) (nI j12))), (3, .int (nI j4)), (4, .int (nI (j12 + 1)))]) [3, 4, 1, 5, 0] rfl (ih (j12 + 1) (fX12_inLine μ (nI j4) (nI j12)) (by omega) (by omega) (fun _ => ra_fo_n (hq0 True.intro) e) (by rw [rj_fo_s (r := r), e] at K; exact K))
noncomputable def bX12_nextBehind_4 (μ : rj_M) (a0 : Int32) (j4 : Nat) (s4 : Int32) : Int32 := (rj_fo (bX12_nextBehind_12 μ a0 j4 s4) ((fX12_lineOf μ (nI j4)).toInt.toNat - 1) 1 s4)
noncomputable def qX12_nextBehind_4 (μ : rj_M) (a0 : Int32) (j4 : Nat) (s4 : Int32) : Prop := ((True → ra_fo (qX12_nextBehind_12 μ a0 j4 s4) (bX12_nextBehind_12 μ a0 j4 s4) ((fX12_lineOf μ (nI j4)).toInt.toNat - 1) 1 s4) ∧ True)
set_option maxHeartbeats 4000000 in
set_option maxRecDepth 100000 in
theorem lX12_nextBehind_4 {g : rj_G} {ω : rj_W} (hω : rj_ok ω) (μ : rj_M) (a0 : Int32)      {F : rj_F} : ∀ (r j : Nat) (s : Int32), j + r = 3 → (True → ra_fo (qX12_nextBehind_4 μ a0) (bX12_nextBehind_4 μ a0) r j s) → (rj_R g RX12 cX12_nextBehind 6 (some .int) wsX12_nextBehind [] (rj_rm 1 0) F 0 ω μ [(0, .ref (ω.2.2 395)), (1, .int a0), (2, .int (rj_fo (bX12_nextBehind_4 μ a0) r j s)), (3, .int (nI 3))] 90 []) → rj_R g RX12 cX12_nextBehind 6 (some .int) wsX12_nextBehind [] (rj_rm 1 0) F 0 ω μ [(0, .ref (ω.2.2 395)), (1, .int a0), (2, .int s), (3, .int (nI j))] 4 [] := by
  intro r
  induction r with
  | zero =>
    intro j s hj hq0 K
    have e0 : j = 3 := by omega
    have hge : 3 ≤ nI j := by
      rw [e0]
      exact Int32.le_refl _
    refine rj_iload_n 3 dX12_nextBehind_4 rfl rfl ?_
    refine rj_iconst (v := 3) dX12_nextBehind_5 rfl (by decide) ?_
    refine rj_icmp_ge dX12_nextBehind_6 rfl rfl (fun h7 => ?_) (fun h7 => ?_)
    · have e1 : nI j = nI 3 := by rw [e0]
      rw [e1]
      exact K
    · exact absurd hge h7
  | succ r ih =>
    intro j4 s4 hj hq0 K
    have hl4 : j4 < 3 := by omega
    have hg4 : ¬ 3 ≤ nI j4 := nI_ge hl4 (rj_bl rfl)
    have hqa := ra_fo_q (hq0 True.intro)
    unfold qX12_nextBehind_4 at hqa
    refine rj_iload_n 3 dX12_nextBehind_4 rfl rfl ?_
    refine rj_iconst (v := 3) dX12_nextBehind_5 rfl (by decide) ?_
    refine rj_icmp_ge dX12_nextBehind_6 rfl rfl (fun h1 => ?_) (fun h1 => ?_)
    · exact absurd h1 hg4
    · refine rj_iconst (v := 1) dX12_nextBehind_9 rfl (by decide) ?_
      refine rj_istore (l' := [(4, .int 1), (0, .ref (ω.2.2 395)), (1, .int a0), (2, .int s4), (3, .int (nI j4))]) dX12_nextBehind_10 rfl (rj_bl rfl) rfl ?_
      refine rj_sub (l' := [(0, .ref (ω.2.2 395)), (1, .int a0), (2, .int s4), (3, .int (nI j4)), (4, .int (nI 1))]) [1, 2, 3, 4, 0] rfl ?_
      refine lX12_nextBehind_12 hω μ a0 j4 s4   hl4  h1 ((fX12_lineOf μ (nI j4)).toInt.toNat - 1) 1 s4 rfl (rj_bl rfl) (And.left hqa) ?_
      refine rj_iinc (v := nI (j4 + 1)) (l' := [(3, .int (nI (j4 + 1))), (0, .ref (ω.2.2 395)), (1, .int a0), (2, .int (rj_fo (bX12_nextBehind_12 μ a0 j4 s4) ((fX12_lineOf μ (nI j4)).toInt.toNat - 1) 1 s4))]) 3 dX12_nextBehind_84 rfl rfl (nI_succ j4).symm (rj_bl rfl) rfl ?_
      refine rj_goto dX12_nextBehind_87 rfl ?_
      have e : bX12_nextBehind_4 μ a0 j4 s4 = (rj_fo (bX12_nextBehind_12 μ a0 j4 s4) ((fX12_lineOf μ (nI j4)).toInt.toNat - 1) 1 s4) := by unfold bX12_nextBehind_4; rfl
      revert e
      generalize (rj_fo (bX12_nextBehind_12 μ a0 j4 s4) ((fX12_lineOf μ (nI j4)).toInt.toNat - 1) 1 s4) = gA0
      intro e
      exact rj_sub (l' := [(0, .ref (ω.2.2 395)), (1, .int a0), (2, .int gA0), (3, .int (nI (j4 + 1)))]) [1, 2, 3, 0] rfl (ih (j4 + 1) gA0 (by omega) (fun _ => ra_fo_n (hq0 True.intro) e) (by rw [rj_fo_s (r := r), e] at K; exact K))
noncomputable def fX12_nextBehind (μ : rj_M) (a0 : Int32) : Int32 := (rj_fo (bX12_nextBehind_4 μ a0) 3 0 (-1))
noncomputable def qX12_nextBehind (μ : rj_M) (a0 : Int32) : Prop := ((True → ra_fo (qX12_nextBehind_4 μ a0) (bX12_nextBehind_4 μ a0) 3 0 (-1)) ∧ True)
set_option maxHeartbeats 40000000 in
set_option maxRecDepth 100000 in
theorem sX12_nextBehind {g : rj_G} {ω : rj_W} (hω : rj_ok ω) (μ : rj_M) (a0 : Int32)   (hq : qX12_nextBehind μ a0) : rj_Sp g yX12_nextBehind wsX12_nextBehind (rj_rm 1 0) [.ref (ω.2.2 395), .int a0] ω μ (rj_D (.inl (some (.int (fX12_nextBehind μ a0)))) ω μ) := by
  have hqa := hq
  unfold qX12_nextBehind at hqa
  refine rj_of' (cc := cX12_nextBehind) (nL := 6) (ret := (some .int)) (own := RX12) (l0 := [(0, .ref (ω.2.2 395)), (1, .int a0)]) rfl (by decide +kernel) rfl (Nat.le_of_ble_eq_true rfl) rfl ?_
  refine rj_iconst (v := (-1)) dX12_nextBehind_0 rfl (by decide) ?_
  refine rj_istore_n (l' := [(2, .int (-1)), (0, .ref (ω.2.2 395)), (1, .int a0)]) dX12_nextBehind_1 rfl (rj_bl rfl) rfl ?_
  refine rj_iconst (v := 0) dX12_nextBehind_2 rfl (by decide) ?_
  refine rj_istore_n (l' := [(3, .int 0), (2, .int (-1)), (0, .ref (ω.2.2 395)), (1, .int a0)]) dX12_nextBehind_3 rfl (rj_bl rfl) rfl ?_
  refine rj_sub (l' := [(0, .ref (ω.2.2 395)), (1, .int a0), (2, .int (-1)), (3, .int (nI 0))]) [2, 3, 1, 0] rfl ?_
  refine lX12_nextBehind_4 hω μ a0      3 0 (-1) rfl (And.left hqa) ?_
  refine rj_iload_n 2 dX12_nextBehind_90 rfl rfl ?_
  exact rj_iret dX12_nextBehind_91 rfl (Nat.le_of_ble_eq_true rfl) (Nat.le_of_ble_eq_true rfl) ⟨(by unfold fX12_nextBehind; rfl), rfl, rfl⟩
