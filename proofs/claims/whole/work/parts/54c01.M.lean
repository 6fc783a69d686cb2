theorem hSX12_lineupShare : yX12_lineupShare.cls ≠ "java/lang/invoke/MethodHandle" ∧ yX12_lineupShare.cls ≠ "java/lang/invoke/VarHandle" ∧ (parseMethodDescriptor yX12_lineupShare.desc).map (fun d => d.parameters.length) = some 0 := by decide +kernel
theorem hVX12_lineupShare : yX12_lineupShare.cls = RX12 ∧ yX12_lineupShare.cls ≠ "java/lang/invoke/MethodHandle" ∧ yX12_lineupShare.cls ≠ "java/lang/invoke/VarHandle" ∧ (parseMethodDescriptor yX12_lineupShare.desc).map (fun d => d.parameters.length) = some 0 := by decide +kernel
theorem vX12_lineupShare_12 : ∀ w ∈ u_ws RX12 TX12 16, w ∈ wsX12_lineupShare := by decide +kernel
theorem kX12_lineupShare_39 : Cond.fieldLink RX12 39 (TX12 0).1 (TX12 0).2.1 (TX12 0).2.2.1 ∈ wsX12_lineupShare := by decide +kernel
noncomputable def fX12_lineupShare (μ : rj_M) : UInt32 := (if (fX12_actsNow (rj_pi μ 395 0 0)) = 0 then FP.fconst0 else (FP.fdiv (FP.i2f (fJ6_bitCount_0f7a4 (mX12_lineup (rj_pi μ 395 0 0)) (fX12_lineup (rj_pi μ 395 0 0)))) (FP.i2f (fX12_actsNow (rj_pi μ 395 0 0)))))
noncomputable def mX12_lineupShare (μ : rj_M) : rj_M := (if (fX12_actsNow (rj_pi μ 395 0 0)) = 0 then (rj_pi μ 395 0 0) else (mX12_lineup (rj_pi μ 395 0 0)))
noncomputable def qX12_lineupShare (μ : rj_M) : Prop := ((((fX12_actsNow (rj_pi μ 395 0 0)) = 0) → True) ∧ ((¬ ((fX12_actsNow (rj_pi μ 395 0 0)) = 0)) → (qX12_lineup (rj_pi μ 395 0 0) ∧ vf_n32 (FP.fdiv (FP.i2f (fJ6_bitCount_0f7a4 (mX12_lineup (rj_pi μ 395 0 0)) (fX12_lineup (rj_pi μ 395 0 0)))) (FP.i2f (fX12_actsNow (rj_pi μ 395 0 0)))) ∧ True)))
set_option maxHeartbeats 40000000 in
set_option maxRecDepth 100000 in
theorem sX12_lineupShare {g : rj_G} {ω : rj_W} (hω : rj_ok ω) (μ : rj_M)   (hq : qX12_lineupShare μ) : rj_Sp g yX12_lineupShare wsX12_lineupShare (rj_rm 23 0) [.ref (ω.2.2 395)] ω μ (rj_D (.inl (some (.float (fX12_lineupShare μ)))) ω (mX12_lineupShare μ)) := by
  have hqa := hq
  unfold qX12_lineupShare at hqa
  refine rj_of' (cc := cX12_lineupShare) (nL := 2) (ret := (some .float)) (own := RX12) (l0 := [(0, .ref (ω.2.2 395))]) rfl (by decide +kernel) rfl (Nat.le_of_ble_eq_true rfl) rfl ?_
  refine rj_aload_n 0 dX12_lineupShare_0 rfl rfl ?_
  refine rj_iconst (v := 0) dX12_lineupShare_1 rfl (by decide) ?_
  refine rj_putI (C0 := RX12) (T := TX12) (N := 16) (j := 0) dX12_lineupShare_2 rfl vX12_lineupShare_12 rfl (rj_lt hω (k := 395) rfl) (rj_sh hω ly_395) (by decide) kX12_lineupShare_39 tyX12 tyX12_ok nmX12 rfl rfl rfl rfl ?_
  refine rj_aload_n 0 dX12_lineupShare_5 rfl rfl ?_
  refine rj_cV (rest := []) (sX12_actsNow (g := g) (ω := ω) hω (rj_pi μ 395 0 0)   ) gX12_lineupShare_X12_actsNow (rj_lt hω (k := 395) rfl) (rj_sh hω ly_395) rfl rfl hVX12_actsNow ⟨Nat.le_of_ble_eq_true rfl, Nat.le_of_ble_eq_true rfl⟩ dX12_lineupShare_6 rfl rfl rfl (Nat.le_of_ble_eq_true rfl) rfl (Nat.le_of_ble_eq_true rfl) rfl ?_
  refine rj_istore_n (l' := [(1, .int (fX12_actsNow (rj_pi μ 395 0 0))), (0, .ref (ω.2.2 395))]) dX12_lineupShare_9 rfl (rj_bl rfl) rfl ?_
  refine rj_iload_n 0 dX12_lineupShare_10 rfl rfl ?_
  refine rj_if_ne dX12_lineupShare_11 rfl rfl (fun h1 => ?_) (fun h1 => ?_)
  · have hq1 := (And.right hqa) h1
    refine rj_aload_n 1 dX12_lineupShare_18 rfl rfl ?_
    refine rj_cV (rest := []) (sX12_lineup (g := g) (ω := ω) hω (rj_pi μ 395 0 0)   (And.left hq1)) gX12_lineupShare_X12_lineup (rj_lt hω (k := 395) rfl) (rj_sh hω ly_395) rfl rfl hVX12_lineup ⟨Nat.le_of_ble_eq_true rfl, Nat.le_of_ble_eq_true rfl⟩ dX12_lineupShare_19 rfl rfl rfl (Nat.le_of_ble_eq_true rfl) rfl (Nat.le_of_ble_eq_true rfl) rfl ?_
    refine rj_cS (rest := []) (sJ6_bitCount_0f7a4 (g := g) (ω := ω) (mX12_lineup (rj_pi μ 395 0 0)) (fX12_lineup (rj_pi μ 395 0 0))   ) gX12_lineupShare_J6_bitCount_0f7a4 rfl hSJ6_bitCount_0f7a4 ⟨Nat.le_of_ble_eq_true rfl, Nat.le_of_ble_eq_true rfl⟩ dX12_lineupShare_22 rfl rfl rfl (Nat.le_of_ble_eq_true rfl) rfl (Nat.le_of_ble_eq_true rfl) rfl ?_
    refine rj_i2f dX12_lineupShare_25 rfl ?_
    refine rj_iload_n 0 dX12_lineupShare_26 rfl rfl ?_
    refine rj_i2f dX12_lineupShare_27 rfl ?_
    refine rj_fdiv dX12_lineupShare_28 rfl (And.left (And.right hq1)) ?_
    exact rj_fret dX12_lineupShare_29 rfl (Nat.le_of_ble_eq_true rfl) (Nat.le_of_ble_eq_true rfl) ⟨(by unfold fX12_lineupShare; rw [if_neg h1]; try rfl), rfl, (by unfold mX12_lineupShare; rw [if_neg h1]; try rfl)⟩
  · skip
    refine rj_fconst0 dX12_lineupShare_14 rfl ?_
    refine rj_goto dX12_lineupShare_15 rfl ?_
    exact rj_fret dX12_lineupShare_29 rfl (Nat.le_of_ble_eq_true rfl) (Nat.le_of_ble_eq_true rfl) ⟨(by unfold fX12_lineupShare; rw [if_pos h1]; try rfl), rfl, (by unfold mX12_lineupShare; rw [if_pos h1]; try rfl)⟩
theorem hSX12_checksum : yX12_checksum.cls ≠ "java/lang/invoke/MethodHandle" ∧ yX12_checksum.cls ≠ "java/lang/invoke/VarHandle" ∧ (parseMethodDescriptor yX12_checksum.desc).map (fun d => d.parameters.length) = some 0 := by decide +kernel
theorem hVX12_checksum : yX12_checksum.cls = RX12 ∧ yX12_checksum.cls ≠ "java/lang/invoke/MethodHandle" ∧ yX12_checksum.cls ≠ "java/lang/invoke/VarHandle" ∧ (parseMethodDescriptor yX12_checksum.desc).map (fun d => d.parameters.length) = some 0 := by decide +kernel
theorem vX12_checksum_12 : ∀ w ∈ u_ws RX12 TX12 16, w ∈ wsX12_checksum := by decide +kernel
theorem kX12_checksum_39 : Cond.fieldLink RX12 39 (TX12 0).1 (TX12 0).2.1 (TX12 0).2.2.1 ∈ wsX12_checksum := by decide +kernel
theorem kX12_checksum_9 : Cond.fieldLink RX12 9 (TX12 1).1 (TX12 1).2.1 (TX12 1).2.2.1 ∈ wsX12_checksum := by decide +kernel
noncomputable def bX12_checksum_11 (μ : rj_M) (j11 : Nat) (s11 : Int64) : Int64 := (if (fX12_isAct (rj_pi μ 395 0 0) (nI j11)) = 0 then s11 else ((((31) * s11) + ((fX12_its (rj_pi μ 395 0 0) (nI j11) 2).toInt64)) + ((10000) * ((fX12_its (rj_pi μ 395 0 0) (nI j11) 1).toInt64))))
set_option maxHeartbeats 4000000 in
set_option maxRecDepth 100000 in
theorem lX12_checksum_11 {g : rj_G} {ω : rj_W} (hω : rj_ok ω) (μ : rj_M)      {F : rj_F} : ∀ (r j : Nat) (s : Int64), j + r = 16 → (rj_R g RX12 cX12_checksum 4 (some .long) wsX12_checksum [] (rj_rm 2 0) F 0 ω (rj_pi μ 395 0 0) [(0, .ref (ω.2.2 395)), (1, .long (rj_fo (bX12_checksum_11 μ) r j s)), (3, .int (nI 16))] 57 []) → rj_R g RX12 cX12_checksum 4 (some .long) wsX12_checksum [] (rj_rm 2 0) F 0 ω (rj_pi μ 395 0 0) [(0, .ref (ω.2.2 395)), (1, .long s), (3, .int (nI j))] 11 [] := by
  intro r
  induction r with
  | zero =>
    intro j s hj K
    have e0 : j = 16 := by omega
    have hge : 16 ≤ nI j := by
      rw [e0]
      exact Int32.le_refl _
    refine rj_iload_n 2 dX12_checksum_11 rfl rfl ?_
    refine rj_bipush (v := 16) dX12_checksum_12 rfl (by decide) ?_
    refine rj_icmp_ge dX12_checksum_14 rfl rfl (fun h3 => ?_) (fun h3 => ?_)
    · have e1 : nI j = nI 16 := by rw [e0]
      rw [e1]
      exact K
    · exact absurd hge h3
  | succ r ih =>
    intro j11 s11 hj K
    have hl11 : j11 < 16 := by omega
    have hg11 : ¬ 16 ≤ nI j11 := nI_ge hl11 (rj_bl rfl)
    refine rj_iload_n 2 dX12_checksum_11 rfl rfl ?_
    refine rj_bipush (v := 16) dX12_checksum_12 rfl (by decide) ?_
    refine rj_icmp_ge dX12_checksum_14 rfl rfl (fun h1 => ?_) (fun h1 => ?_)
    · exact absurd h1 hg11
    · refine rj_aload_n 0 dX12_checksum_17 rfl rfl ?_
      refine rj_iload_n 2 dX12_checksum_18 rfl rfl ?_
      refine rj_cV (rest := []) (sX12_isAct (g := g) (ω := ω) hω (rj_pi μ 395 0 0) (nI j11)   ) gX12_checksum_X12_isAct (rj_lt hω (k := 395) rfl) (rj_sh hω ly_395) rfl rfl hVX12_isAct ⟨Nat.le_of_ble_eq_true rfl, Nat.le_of_ble_eq_true rfl⟩ dX12_checksum_19 rfl rfl rfl (Nat.le_of_ble_eq_true rfl) rfl (Nat.le_of_ble_eq_true rfl) rfl ?_
      refine rj_if_eq dX12_checksum_22 rfl rfl (fun h2 => ?_) (fun h2 => ?_)
      · refine rj_iinc (v := nI (j11 + 1)) (l' := [(3, .int (nI (j11 + 1))), (0, .ref (ω.2.2 395)), (1, .long s11)]) 2 dX12_checksum_51 rfl rfl (nI_succ j11).symm (rj_bl rfl) rfl ?_
        refine rj_goto dX12_checksum_54 rfl ?_
        have e : bX12_checksum_11 μ j11 s11 = s11 := by unfold bX12_checksum_11; rw [if_pos h2]; try rfl
        exact rj_sub (l' := [(0, .ref (ω.2.2 395)), (1, .long s11), (3, .int (nI (j11 + 1)))]) [1, 2, 0] rfl (ih (j11 + 1) s11 (by omega) (by rw [rj_fo_s (r := r), e] at K; exact K))
      · refine rj_ldc2 (v := (31)) dX12_checksum_25 rfl (by decide +kernel) ?_
        refine rj_lload_n 1 dX12_checksum_28 rfl rfl ?_
        refine rj_lmul dX12_checksum_29 rfl ?_
        refine rj_aload_n 0 dX12_checksum_30 rfl rfl ?_
        refine rj_iload_n 2 dX12_checksum_31 rfl rfl ?_
        refine rj_iconst (v := 2) dX12_checksum_32 rfl (by decide) ?_
        refine rj_cV (rest := [.long ((31) * s11)]) (sX12_its (g := g) (ω := ω) hω (rj_pi μ 395 0 0) (nI j11) 2  (vp_in_nI hl11 (rj_bl rfl)) (vp_in_nI (n := 2) (rj_bl rfl) (rj_bl rfl)) ) gX12_checksum_X12_its (rj_lt hω (k := 395) rfl) (rj_sh hω ly_395) rfl rfl hVX12_its ⟨Nat.le_of_ble_eq_true rfl, Nat.le_of_ble_eq_true rfl⟩ dX12_checksum_33 rfl rfl rfl (Nat.le_of_ble_eq_true rfl) rfl (Nat.le_of_ble_eq_true rfl) rfl ?_
        refine rj_i2l dX12_checksum_36 rfl ?_
        refine rj_ladd dX12_checksum_37 rfl ?_
        refine rj_ldc2 (v := (10000)) dX12_checksum_38 rfl (by decide +kernel) ?_
        refine rj_aload_n 0 dX12_checksum_41 rfl rfl ?_
        refine rj_iload_n 2 dX12_checksum_42 rfl rfl ?_
        refine rj_iconst (v := 1) dX12_checksum_43 rfl (by decide) ?_
        refine rj_cV (rest := [.long (10000), .long (((31) * s11) + ((fX12_its (rj_pi μ 395 0 0) (nI j11) 2).toInt64))]) (sX12_its (g := g) (ω := ω) hω (rj_pi μ 395 0 0) (nI j11) 1  (vp_in_nI hl11 (rj_bl rfl)) (vp_in_nI (n := 1) (rj_bl rfl) (rj_bl rfl)) ) gX12_checksum_X12_its (rj_lt hω (k := 395) rfl) (rj_sh hω ly_395) rfl rfl hVX12_its ⟨Nat.le_of_ble_eq_true rfl, Nat.le_of_ble_eq_true rfl⟩ dX12_checksum_44 rfl rfl rfl (Nat.le_of_ble_eq_true rfl) rfl (Nat.le_of_ble_eq_true rfl) rfl ?_
        refine rj_i2l dX12_checksum_47 rfl ?_
        refine rj_lmul dX12_checksum_48 rfl ?_
        refine rj_ladd dX12_checksum_49 rfl ?_
        refine rj_lstore_n (l' := [(1, .long ((((31) * s11) + ((fX12_its (rj_pi μ 395 0 0) (nI j11) 2).toInt64)) + ((10000) * ((fX12_its (rj_pi μ 395 0 0) (nI j11) 1).toInt64)))), (0, .ref (ω.2.2 395)), (3, .int (nI j11))]) dX12_checksum_50 rfl (rj_bl rfl) rfl ?_
        refine rj_iinc (v := nI (j11 + 1)) (l' := [(3, .int (nI (j11 + 1))), (1, .long ((((31) * s11) + ((fX12_its (rj_pi μ 395 0 0) (nI j11) 2).toInt64)) + ((10000) * ((fX12_its (rj_pi μ 395 0 0) (nI j11) 1).toInt64)))), (0, .ref (ω.2.2 395))]) 2 dX12_checksum_51 rfl rfl (nI_succ j11).symm (rj_bl rfl) rfl ?_
        refine rj_goto dX12_checksum_54 rfl ?_
        have e : bX12_checksum_11 μ j11 s11 = ((((31) * s11) + ((fX12_its (rj_pi μ 395 0 0) (nI j11) 2).toInt64)) + ((10000) * ((fX12_its (rj_pi μ 395 0 0) (nI j11) 1).toInt64))) := by unfold bX12_checksum_11; rw [if_neg h2]; try rfl
        exact rj_sub (l' := [(0, .ref (ω.2.2 395)), (1, .long ((((31) * s11) + ((fX12_its (rj_pi μ 395 0 0) (nI j11) 2).toInt64)) + ((10000) * ((fX12_its (rj_pi μ 395 0 0) (nI j11) 1).toInt64)))), (3, .int (nI (j11 + 1)))]) [2, 1, 0] rfl (ih (j11 + 1) ((((31) * s11) + ((fX12_its (rj_pi μ 395 0 0) (nI j11) 2).toInt64)) + ((10000) * ((fX12_its (rj_pi μ 395 0 0) (nI j11) 1).toInt64))) (by omega) (by rw [rj_fo_s (r := r), e] at K; exact K))
noncomputable def bX12_checksum_59 (μ : rj_M) (j59 : Nat) (s59 : Int64) : Int64 := (((31) * s59) + (((rj_pi μ 395 0 0).1 396 (501 + (nI j59)).toNatClampNeg).toInt64))
set_option maxHeartbeats 4000000 in
set_option maxRecDepth 100000 in
theorem lX12_checksum_59 {g : rj_G} {ω : rj_W} (hω : rj_ok ω) (μ : rj_M)      {F : rj_F} : ∀ (r j : Nat) (s : Int64), j + r = 12 → (rj_R g RX12 cX12_checksum 4 (some .long) wsX12_checksum [] (rj_rm 2 0) F 0 ω (rj_pi μ 395 0 0) [(0, .ref (ω.2.2 395)), (1, .long (rj_fo (bX12_checksum_59 μ) r j s)), (3, .int (nI 12))] 89 []) → rj_R g RX12 cX12_checksum 4 (some .long) wsX12_checksum [] (rj_rm 2 0) F 0 ω (rj_pi μ 395 0 0) [(0, .ref (ω.2.2 395)), (1, .long s), (3, .int (nI j))] 59 [] := by
  intro r
  induction r with
  | zero =>
    intro j s hj K
    have e0 : j = 12 := by omega
    have hge : 12 ≤ nI j := by
      rw [e0]
      exact Int32.le_refl _
    refine rj_iload_n 2 dX12_checksum_59 rfl rfl ?_
    refine rj_bipush (v := 12) dX12_checksum_60 rfl (by decide) ?_
    refine rj_icmp_ge dX12_checksum_62 rfl rfl (fun h5 => ?_) (fun h5 => ?_)
    · have e1 : nI j = nI 12 := by rw [e0]
      rw [e1]
      exact K
    · exact absurd hge h5
  | succ r ih =>
    intro j59 s59 hj K
    have hl59 : j59 < 12 := by omega
    have hg59 : ¬ 12 ≤ nI j59 := nI_ge hl59 (rj_bl rfl)
    refine rj_iload_n 2 dX12_checksum_59 rfl rfl ?_
    refine rj_bipush (v := 12) dX12_checksum_60 rfl (by decide) ?_
    refine rj_icmp_ge dX12_checksum_62 rfl rfl (fun h4 => ?_) (fun h4 => ?_)
    · exact absurd h4 hg59
    · refine rj_ldc2 (v := (31)) dX12_checksum_65 rfl (by decide +kernel) ?_
      refine rj_lload_n 1 dX12_checksum_68 rfl rfl ?_
      refine rj_lmul dX12_checksum_69 rfl ?_
      refine rj_aload_n 0 dX12_checksum_70 rfl rfl ?_
      refine rj_getR (C0 := RX12) (T := TX12) (N := 16) (j := 1) (r := 396) dX12_checksum_71 rfl vX12_checksum_12 rfl (rj_lt hω (k := 395) rfl) (rj_sh hω ly_395) (by decide) kX12_checksum_9 rfl ?_
      refine rj_sipush (v := 501) dX12_checksum_74 rfl (by decide) ?_
      refine rj_iload_n 2 dX12_checksum_77 rfl rfl ?_
      refine rj_iadd dX12_checksum_78 rfl ?_
      refine rj_iald dX12_checksum_79 rfl (rj_lt hω (k := 396) rfl) (rj_sh hω ly_396) (rj_vle (rj_vadd (N := 513) (vp_in_nI (n := 501) (N := 502) (rj_bl rfl) (rj_bl rfl)) (vp_in_nI (N := 12) hl59 (rj_bl rfl)) rfl rfl) rfl) ?_
      refine rj_i2l dX12_checksum_80 rfl ?_
      refine rj_ladd dX12_checksum_81 rfl ?_
      refine rj_lstore_n (l' := [(1, .long (((31) * s59) + (((rj_pi μ 395 0 0).1 396 (501 + (nI j59)).toNatClampNeg).toInt64))), (0, .ref (ω.2.2 395)), (3, .int (nI j59))]) dX12_checksum_82 rfl (rj_bl rfl) rfl ?_
      refine rj_iinc (v := nI (j59 + 1)) (l' := [(3, .int (nI (j59 + 1))), (1, .long (((31) * s59) + (((rj_pi μ 395 0 0).1 396 (501 + (nI j59)).toNatClampNeg).toInt64))), (0, .ref (ω.2.2 395))]) 2 dX12_checksum_83 rfl rfl (nI_succ j59).symm (rj_bl rfl) rfl ?_
      refine rj_goto dX12_checksum_86 rfl ?_
      have e : bX12_checksum_59 μ j59 s59 = (((31) * s59) + (((rj_pi μ 395 0 0).1 396 (501 + (nI j59)).toNatClampNeg).toInt64)) := by unfold bX12_checksum_59; rfl
      exact rj_sub (l' := [(0, .ref (ω.2.2 395)), (1, .long (((31) * s59) + (((rj_pi μ 395 0 0).1 396 (501 + (nI j59)).toNatClampNeg).toInt64))), (3, .int (nI (j59 + 1)))]) [2, 1, 0] rfl (ih (j59 + 1) (((31) * s59) + (((rj_pi μ 395 0 0).1 396 (501 + (nI j59)).toNatClampNeg).toInt64)) (by omega) (by rw [rj_fo_s (r := r), e] at K; exact K))
noncomputable def fX12_checksum (μ : rj_M) : Int64 := (rj_fo (bX12_checksum_59 μ) 12 0 (rj_fo (bX12_checksum_11 μ) 16 0 (7)))
noncomputable def mX12_checksum (μ : rj_M) : rj_M := (rj_pi μ 395 0 0)
set_option maxHeartbeats 40000000 in
set_option maxRecDepth 100000 in
theorem sX12_checksum {g : rj_G} {ω : rj_W} (hω : rj_ok ω) (μ : rj_M)   : rj_Sp g yX12_checksum wsX12_checksum (rj_rm 2 0) [.ref (ω.2.2 395)] ω μ (rj_D (.inl (some (.long (fX12_checksum μ)))) ω (mX12_checksum μ)) := by
  refine rj_of' (cc := cX12_checksum) (nL := 4) (ret := (some .long)) (own := RX12) (l0 := [(0, .ref (ω.2.2 395))]) rfl (by decide +kernel) rfl (Nat.le_of_ble_eq_true rfl) rfl ?_
  refine rj_aload_n 0 dX12_checksum_0 rfl rfl ?_
  refine rj_iconst (v := 0) dX12_checksum_1 rfl (by decide) ?_
  refine rj_putI (C0 := RX12) (T := TX12) (N := 16) (j := 0) dX12_checksum_2 rfl vX12_checksum_12 rfl (rj_lt hω (k := 395) rfl) (rj_sh hω ly_395) (by decide) kX12_checksum_39 tyX12 tyX12_ok nmX12 rfl rfl rfl rfl ?_
  refine rj_ldc2 (v := (7)) dX12_checksum_5 rfl (by decide +kernel) ?_
  refine rj_lstore_n (l' := [(1, .long (7)), (0, .ref (ω.2.2 395))]) dX12_checksum_8 rfl (rj_bl rfl) rfl ?_
  refine rj_iconst (v := 0) dX12_checksum_9 rfl (by decide) ?_
  refine rj_istore_n (l' := [(3, .int 0), (1, .long (7)), (0, .ref (ω.2.2 395))]) dX12_checksum_10 rfl (rj_bl rfl) rfl ?_
  refine rj_sub (l' := [(0, .ref (ω.2.2 395)), (1, .long (7)), (3, .int (nI 0))]) [2, 1, 0] rfl ?_
  refine lX12_checksum_11 hω μ      16 0 (7) rfl ?_
  refine rj_iconst (v := 0) dX12_checksum_57 rfl (by decide) ?_
  refine rj_istore_n (l' := [(3, .int 0), (0, .ref (ω.2.2 395)), (1, .long (rj_fo (bX12_checksum_11 μ) 16 0 (7)))]) dX12_checksum_58 rfl (rj_bl rfl) rfl ?_
  refine rj_sub (l' := [(0, .ref (ω.2.2 395)), (1, .long (rj_fo (bX12_checksum_11 μ) 16 0 (7))), (3, .int (nI 0))]) [1, 2, 0] rfl ?_
  refine lX12_checksum_59 hω μ      12 0 (rj_fo (bX12_checksum_11 μ) 16 0 (7)) rfl ?_
  refine rj_lload_n 1 dX12_checksum_89 rfl rfl ?_
  exact rj_lret dX12_checksum_90 rfl (Nat.le_of_ble_eq_true rfl) (Nat.le_of_ble_eq_true rfl) ⟨(by unfold fX12_checksum; rfl), rfl, (by unfold mX12_checksum; rfl)⟩
