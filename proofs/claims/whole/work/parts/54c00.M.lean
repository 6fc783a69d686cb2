theorem hSX12_undo : yX12_undo.cls ≠ "java/lang/invoke/MethodHandle" ∧ yX12_undo.cls ≠ "java/lang/invoke/VarHandle" ∧ (parseMethodDescriptor yX12_undo.desc).map (fun d => d.parameters.length) = some 0 := by decide +kernel
theorem hVX12_undo : yX12_undo.cls = RX12 ∧ yX12_undo.cls ≠ "java/lang/invoke/MethodHandle" ∧ yX12_undo.cls ≠ "java/lang/invoke/VarHandle" ∧ (parseMethodDescriptor yX12_undo.desc).map (fun d => d.parameters.length) = some 0 := by decide +kernel
theorem vX12_undo_12 : ∀ w ∈ u_ws RX12 TX12 16, w ∈ wsX12_undo := by decide +kernel
theorem kX12_undo_55 : Cond.fieldLink RX12 55 (TX12 3).1 (TX12 3).2.1 (TX12 3).2.2.1 ∈ wsX12_undo := by decide +kernel
theorem kX12_undo_15 : Cond.fieldLink RX12 15 (TX12 2).1 (TX12 2).2.1 (TX12 2).2.2.1 ∈ wsX12_undo := by decide +kernel
theorem kX12_undo_9 : Cond.fieldLink RX12 9 (TX12 1).1 (TX12 1).2.1 (TX12 1).2.2.1 ∈ wsX12_undo := by decide +kernel
theorem jX12_undo_58_0 : Cond.methodLink RX12 58 arraycopyName ∈ wsX12_undo := by decide +kernel
theorem jX12_undo_58_1 : Cond.native arraycopyName ∈ wsX12_undo := by decide +kernel
theorem jX12_undo_58_2 : Cond.static arraycopyName ∈ wsX12_undo := by decide +kernel
theorem jX12_undo_58_3 : Cond.initialized "java/lang/System" ∈ wsX12_undo := by decide +kernel
theorem kX12_undo_64 : Cond.fieldLink RX12 64 (TX12 11).1 (TX12 11).2.1 (TX12 11).2.2.1 ∈ wsX12_undo := by decide +kernel
noncomputable def fX12_undo (μ : rj_M) : Int32 := (if (μ.1 395 3) ≤ 0 then 0 else ((rj_pi (rj_ri (rj_pi (mX12_lacksT μ) 395 3 (((mX12_lacksT μ).1 395 3) - 1)) 396 (va_cpy ((rj_pi (mX12_lacksT μ) 395 3 (((mX12_lacksT μ).1 395 3) - 1)).1 ((rj_pi (mX12_lacksT μ) 395 3 (((mX12_lacksT μ).1 395 3) - 1)).2.2.2 397 ((rj_pi (mX12_lacksT μ) 395 3 (((mX12_lacksT μ).1 395 3) - 1)).1 395 3).toNatClampNeg - 1)) ((rj_pi (mX12_lacksT μ) 395 3 (((mX12_lacksT μ).1 395 3) - 1)).1 396) 0 0 625)) 395 11 0).1 395 3))
noncomputable def mX12_undo (μ : rj_M) : rj_M := (if (μ.1 395 3) ≤ 0 then (mX12_lacksF μ) else (rj_pi (rj_ri (rj_pi (mX12_lacksT μ) 395 3 (((mX12_lacksT μ).1 395 3) - 1)) 396 (va_cpy ((rj_pi (mX12_lacksT μ) 395 3 (((mX12_lacksT μ).1 395 3) - 1)).1 ((rj_pi (mX12_lacksT μ) 395 3 (((mX12_lacksT μ).1 395 3) - 1)).2.2.2 397 ((rj_pi (mX12_lacksT μ) 395 3 (((mX12_lacksT μ).1 395 3) - 1)).1 395 3).toNatClampNeg - 1)) ((rj_pi (mX12_lacksT μ) 395 3 (((mX12_lacksT μ).1 395 3) - 1)).1 396) 0 0 625)) 395 11 0))
noncomputable def qX12_undo (μ : rj_M) : Prop := ((((μ.1 395 3) ≤ 0) → True) ∧ ((¬ ((μ.1 395 3) ≤ 0)) → (rj_row (rj_pi (mX12_lacksT μ) 395 3 (((mX12_lacksT μ).1 395 3) - 1)) 397 8 398 406 ((rj_pi (mX12_lacksT μ) 395 3 (((mX12_lacksT μ).1 395 3) - 1)).1 395 3) ∧ True)))
set_option maxHeartbeats 40000000 in
set_option maxRecDepth 100000 in
theorem sX12_undo {g : rj_G} {ω : rj_W} (hω : rj_ok ω) (μ : rj_M)   (hq : qX12_undo μ) : rj_Sp g yX12_undo wsX12_undo (rj_rm 2 0) [.ref (ω.2.2 395)] ω μ (rj_D (.inl (some (.int (fX12_undo μ)))) ω (mX12_undo μ)) := by
  have hqa := hq
  unfold qX12_undo at hqa
  refine rj_of' (cc := cX12_undo) (nL := 1) (ret := (some .int)) (own := RX12) (l0 := [(0, .ref (ω.2.2 395))]) rfl (by decide +kernel) rfl (Nat.le_of_ble_eq_true rfl) rfl ?_
  refine rj_aload_n 0 dX12_undo_0 rfl rfl ?_
  refine rj_aload_n 0 dX12_undo_1 rfl rfl ?_
  refine rj_getI (C0 := RX12) (T := TX12) (N := 16) (j := 3) dX12_undo_2 rfl vX12_undo_12 rfl (rj_lt hω (k := 395) rfl) (rj_sh hω ly_395) (by decide) kX12_undo_55 rfl ?_
  refine rj_if_le dX12_undo_5 rfl rfl (fun h1 => ?_) (fun h1 => ?_)
  · skip
    refine rj_iconst (v := 0) dX12_undo_12 rfl (by decide) ?_
    refine rj_cV (rest := []) (sX12_lacksF (g := g) (ω := ω) hω μ   ) gX12_undo_X12_lacks (rj_lt hω (k := 395) rfl) (rj_sh hω ly_395) rfl rfl hVX12_lacks ⟨Nat.le_of_ble_eq_true rfl, Nat.le_of_ble_eq_true rfl⟩ dX12_undo_13 rfl rfl rfl (Nat.le_of_ble_eq_true rfl) rfl (Nat.le_of_ble_eq_true rfl) rfl ?_
    refine rj_if_eq dX12_undo_16 rfl rfl (fun h2 => ?_) (fun h2 => ?_)
    · exact absurd h2 (by decide)
    · refine rj_iconst (v := 0) dX12_undo_19 rfl (by decide) ?_
      exact rj_iret dX12_undo_20 rfl (Nat.le_of_ble_eq_true rfl) (Nat.le_of_ble_eq_true rfl) ⟨(by unfold fX12_undo; rw [if_pos h1]; try rfl), rfl, (by unfold mX12_undo; rw [if_pos h1]; try rfl)⟩
  · have hq2 := (And.right hqa) h1
    refine rj_iconst (v := 1) dX12_undo_8 rfl (by decide) ?_
    refine rj_goto dX12_undo_9 rfl ?_
    refine rj_cV (rest := []) (sX12_lacksT (g := g) (ω := ω) hω μ   ) gX12_undo_X12_lacks (rj_lt hω (k := 395) rfl) (rj_sh hω ly_395) rfl rfl hVX12_lacks ⟨Nat.le_of_ble_eq_true rfl, Nat.le_of_ble_eq_true rfl⟩ dX12_undo_13 rfl rfl rfl (Nat.le_of_ble_eq_true rfl) rfl (Nat.le_of_ble_eq_true rfl) rfl ?_
    refine rj_if_eq dX12_undo_16 rfl rfl (fun h3 => ?_) (fun h3 => ?_)
    · refine rj_aload_n 0 dX12_undo_21 rfl rfl ?_
      refine rj_dup dX12_undo_22 rfl rfl ?_
      refine rj_getI (C0 := RX12) (T := TX12) (N := 16) (j := 3) dX12_undo_23 rfl vX12_undo_12 rfl (rj_lt hω (k := 395) rfl) (rj_sh hω ly_395) (by decide) kX12_undo_55 rfl ?_
      refine rj_iconst (v := 1) dX12_undo_26 rfl (by decide) ?_
      refine rj_isub dX12_undo_27 rfl ?_
      refine rj_putI (C0 := RX12) (T := TX12) (N := 16) (j := 3) dX12_undo_28 rfl vX12_undo_12 rfl (rj_lt hω (k := 395) rfl) (rj_sh hω ly_395) (by decide) kX12_undo_55 tyX12 tyX12_ok nmX12 rfl rfl rfl rfl ?_
      refine rj_aload_n 0 dX12_undo_31 rfl rfl ?_
      refine rj_getR (C0 := RX12) (T := TX12) (N := 16) (j := 2) (r := 397) dX12_undo_32 rfl vX12_undo_12 rfl (rj_lt hω (k := 395) rfl) (rj_sh hω ly_395) (by decide) kX12_undo_15 rfl ?_
      refine rj_aload_n 0 dX12_undo_35 rfl rfl ?_
      refine rj_getI (C0 := RX12) (T := TX12) (N := 16) (j := 3) dX12_undo_36 rfl vX12_undo_12 rfl (rj_lt hω (k := 395) rfl) (rj_sh hω ly_395) (by decide) kX12_undo_55 rfl ?_
      have hrow3 := (And.left hq2)
      refine rj_qaldR dX12_undo_39 rfl (rj_lt hω (k := 397) rfl) (rj_sh hω ly_397) hrow3 ?_
      refine rj_iconst (v := 0) dX12_undo_40 rfl (by decide) ?_
      refine rj_aload_n 0 dX12_undo_41 rfl rfl ?_
      refine rj_getR (C0 := RX12) (T := TX12) (N := 16) (j := 1) (r := 396) dX12_undo_42 rfl vX12_undo_12 rfl (rj_lt hω (k := 395) rfl) (rj_sh hω ly_395) (by decide) kX12_undo_9 rfl ?_
      refine rj_iconst (v := 0) dX12_undo_45 rfl (by decide) ?_
      refine rj_sipush (v := 625) dX12_undo_46 rfl (by decide) ?_
      refine rj_copyi (mm := 625) dX12_undo_49 rfl jX12_undo_58_0 jX12_undo_58_1 jX12_undo_58_2 jX12_undo_58_3 (rj_rowlt hω hrow3 rfl) (rj_rowsh397 hω hrow3) (rj_lt hω (k := 396) rfl) (rj_sh hω ly_396) (Nat.le_of_ble_eq_true rfl) (Nat.le_of_ble_eq_true rfl) (rj_bl rfl) (Nat.le_of_ble_eq_true rfl) (by decide) ?_
      refine rj_aload_n 0 dX12_undo_52 rfl rfl ?_
      refine rj_iconst (v := 0) dX12_undo_53 rfl (by decide) ?_
      refine rj_putI (C0 := RX12) (T := TX12) (N := 16) (j := 11) dX12_undo_54 rfl vX12_undo_12 rfl (rj_lt hω (k := 395) rfl) (rj_sh hω ly_395) (by decide) kX12_undo_64 tyX12 tyX12_ok nmX12 rfl rfl (by decide) rfl ?_
      refine rj_aload_n 0 dX12_undo_57 rfl rfl ?_
      refine rj_getI (C0 := RX12) (T := TX12) (N := 16) (j := 3) dX12_undo_58 rfl vX12_undo_12 rfl (rj_lt hω (k := 395) rfl) (rj_sh hω ly_395) (by decide) kX12_undo_55 rfl ?_
      exact rj_iret dX12_undo_61 rfl (Nat.le_of_ble_eq_true rfl) (Nat.le_of_ble_eq_true rfl) ⟨(by unfold fX12_undo; rw [if_neg h1]; try rfl), rfl, (by unfold mX12_undo; rw [if_neg h1]; try rfl)⟩
    · exact absurd (by decide) h3
theorem hSX12_meanEvening : yX12_meanEvening.cls ≠ "java/lang/invoke/MethodHandle" ∧ yX12_meanEvening.cls ≠ "java/lang/invoke/VarHandle" ∧ (parseMethodDescriptor yX12_meanEvening.desc).map (fun d => d.parameters.length) = some 1 := by decide +kernel
theorem hVX12_meanEvening : yX12_meanEvening.cls = RX12 ∧ yX12_meanEvening.cls ≠ "java/lang/invoke/MethodHandle" ∧ yX12_meanEvening.cls ≠ "java/lang/invoke/VarHandle" ∧ (parseMethodDescriptor yX12_meanEvening.desc).map (fun d => d.parameters.length) = some 1 := by decide +kernel
noncomputable def bX12_meanEvening_17 (μ : rj_M) (a0 : Int32) (j17 : Nat) (s17 : Int32 × rj_M) : (Int32 × rj_M) := ((s17.1 + (fX12_findsEvening s17.2 (nI j17) a0)), (mX12_findsEvening s17.2 (nI j17) a0))
noncomputable def qX12_meanEvening_17 (μ : rj_M) (a0 : Int32) (j17 : Nat) (s17 : Int32 × rj_M) : Prop := (qX12_findsEvening s17.2 (nI j17) a0 ∧ True)
set_option maxHeartbeats 4000000 in
set_option maxRecDepth 100000 in
theorem lX12_meanEvening_17 {g : rj_G} {ω : rj_W} (hω : rj_ok ω) (μ : rj_M) (a0 : Int32)     (h1 : ((fX12_lacks μ (fX12_isDay μ a0)) = 0)) {F : rj_F} : ∀ (r j : Nat) (s : Int32 × rj_M), j + r = 12 → (True → ra_fo (qX12_meanEvening_17 μ a0) (bX12_meanEvening_17 μ a0) r j s) → (rj_R g RX12 cX12_meanEvening 4 (some .double) wsX12_meanEvening [] (rj_rm 5 0) F 0 ω ((rj_fo (bX12_meanEvening_17 μ a0) r j s).2) [(0, .ref (ω.2.2 395)), (1, .int a0), (2, .int ((rj_fo (bX12_meanEvening_17 μ a0) r j s).1)), (3, .int (nI 12))] 38 []) → rj_R g RX12 cX12_meanEvening 4 (some .double) wsX12_meanEvening [] (rj_rm 5 0) F 0 ω s.2 [(0, .ref (ω.2.2 395)), (1, .int a0), (2, .int s.1), (3, .int (nI j))] 17 [] := by
  intro r
  induction r with
  | zero =>
    intro j s hj hq0 K
    have e0 : j = 12 := by omega
    have hge : 12 ≤ nI j := by
      rw [e0]
      exact Int32.le_refl _
    refine rj_iload_n 3 dX12_meanEvening_17 rfl rfl ?_
    refine rj_bipush (v := 12) dX12_meanEvening_18 rfl (by decide) ?_
    refine rj_icmp_ge dX12_meanEvening_20 rfl rfl (fun h3 => ?_) (fun h3 => ?_)
    · have e1 : nI j = nI 12 := by rw [e0]
      rw [e1]
      exact K
    · exact absurd hge h3
  | succ r ih =>
    intro j17 s17 hj hq0 K
    have hl17 : j17 < 12 := by omega
    have hg17 : ¬ 12 ≤ nI j17 := nI_ge hl17 (rj_bl rfl)
    have hqa := ra_fo_q (hq0 True.intro)
    unfold qX12_meanEvening_17 at hqa
    refine rj_iload_n 3 dX12_meanEvening_17 rfl rfl ?_
    refine rj_bipush (v := 12) dX12_meanEvening_18 rfl (by decide) ?_
    refine rj_icmp_ge dX12_meanEvening_20 rfl rfl (fun h2 => ?_) (fun h2 => ?_)
    · exact absurd h2 hg17
    · refine rj_iload_n 2 dX12_meanEvening_23 rfl rfl ?_
      refine rj_aload_n 0 dX12_meanEvening_24 rfl rfl ?_
      refine rj_iload_n 3 dX12_meanEvening_25 rfl rfl ?_
      refine rj_iload_n 1 dX12_meanEvening_26 rfl rfl ?_
      refine rj_cV (rest := [.int s17.1]) (sX12_findsEvening (g := g) (ω := ω) hω s17.2 (nI j17) a0  (vp_in_nI hl17 (rj_bl rfl)) (And.left hqa)) gX12_meanEvening_X12_findsEvening (rj_lt hω (k := 395) rfl) (rj_sh hω ly_395) rfl rfl hVX12_findsEvening ⟨Nat.le_of_ble_eq_true rfl, Nat.le_of_ble_eq_true rfl⟩ dX12_meanEvening_27 rfl rfl rfl (Nat.le_of_ble_eq_true rfl) rfl (Nat.le_of_ble_eq_true rfl) rfl ?_
      refine rj_iadd dX12_meanEvening_30 rfl ?_
      refine rj_istore_n (l' := [(2, .int (s17.1 + (fX12_findsEvening s17.2 (nI j17) a0))), (0, .ref (ω.2.2 395)), (1, .int a0), (3, .int (nI j17))]) dX12_meanEvening_31 rfl (rj_bl rfl) rfl ?_
      refine rj_iinc (v := nI (j17 + 1)) (l' := [(3, .int (nI (j17 + 1))), (2, .int (s17.1 + (fX12_findsEvening s17.2 (nI j17) a0))), (0, .ref (ω.2.2 395)), (1, .int a0)]) 3 dX12_meanEvening_32 rfl rfl (nI_succ j17).symm (rj_bl rfl) rfl ?_
      refine rj_goto dX12_meanEvening_35 rfl ?_
      have e : bX12_meanEvening_17 μ a0 j17 s17 = ((s17.1 + (fX12_findsEvening s17.2 (nI j17) a0)), (mX12_findsEvening s17.2 (nI j17) a0)) := by unfold bX12_meanEvening_17; rfl
      revert e
      generalize (mX12_findsEvening s17.2 (nI j17) a0) = gA0
      intro e
      exact rj_sub (l' := [(0, .ref (ω.2.2 395)), (1, .int a0), (2, .int (s17.1 + (fX12_findsEvening s17.2 (nI j17) a0))), (3, .int (nI (j17 + 1)))]) [2, 3, 1, 0] rfl (ih (j17 + 1) ((s17.1 + (fX12_findsEvening s17.2 (nI j17) a0)), gA0) (by omega) (fun _ => ra_fo_n (hq0 True.intro) e) (by rw [rj_fo_s (r := r), e] at K; exact K))
set_option maxHeartbeats 4000000 in
theorem lX12_meanEvening_17u {g : rj_G} {ω : rj_W} (hω : rj_ok ω) (μ : rj_M) (a0 : Int32)     (h1 : ((fX12_lacks μ (fX12_isDay μ a0)) = 0)) {F : rj_F} : ∀ (r j : Nat) (c0 : Int32) (c1 : rj_M), j + r = 12 → (True → ra_fo (qX12_meanEvening_17 μ a0) (bX12_meanEvening_17 μ a0) r j (c0, c1)) → (rj_R g RX12 cX12_meanEvening 4 (some .double) wsX12_meanEvening [] (rj_rm 5 0) F 0 ω ((rj_fo (bX12_meanEvening_17 μ a0) r j (c0, c1)).2) [(0, .ref (ω.2.2 395)), (1, .int a0), (2, .int ((rj_fo (bX12_meanEvening_17 μ a0) r j (c0, c1)).1)), (3, .int (nI 12))] 38 []) → rj_R g RX12 cX12_meanEvening 4 (some .double) wsX12_meanEvening [] (rj_rm 5 0) F 0 ω c1 [(0, .ref (ω.2.2 395)), (1, .int a0), (2, .int c0), (3, .int (nI j))] 17 [] := fun r j c0 c1 => lX12_meanEvening_17 hω μ a0     h1 r j (c0, c1)
noncomputable def fX12_meanEvening (μ : rj_M) (a0 : Int32) : UInt64 := (if (fX12_lacks μ (fX12_isDay μ a0)) = 0 then (FP.ddiv (FP.i2d ((rj_fo (bX12_meanEvening_17 μ a0) 12 0 (0, (mX12_lacks μ (fX12_isDay μ a0)))).1)) (4622945017495814144 : UInt64)) else FP.dconst0)
noncomputable def mX12_meanEvening (μ : rj_M) (a0 : Int32) : rj_M := (if (fX12_lacks μ (fX12_isDay μ a0)) = 0 then (rj_fo (bX12_meanEvening_17 μ a0) 12 0 (0, (mX12_lacks μ (fX12_isDay μ a0)))).2 else (mX12_lacks μ (fX12_isDay μ a0)))
noncomputable def qX12_meanEvening (μ : rj_M) (a0 : Int32) : Prop := ((((fX12_lacks μ (fX12_isDay μ a0)) = 0) → ((True → ra_fo (qX12_meanEvening_17 μ a0) (bX12_meanEvening_17 μ a0) 12 0 (0, (mX12_lacks μ (fX12_isDay μ a0)))) ∧ (vf_n64 (FP.ddiv (FP.i2d ((rj_fo (bX12_meanEvening_17 μ a0) 12 0 (0, (mX12_lacks μ (fX12_isDay μ a0)))).1)) (4622945017495814144 : UInt64)) ∧ True))) ∧ ((¬ ((fX12_lacks μ (fX12_isDay μ a0)) = 0)) → True))
set_option maxHeartbeats 40000000 in
set_option maxRecDepth 100000 in
theorem sX12_meanEvening {g : rj_G} {ω : rj_W} (hω : rj_ok ω) (μ : rj_M) (a0 : Int32)   (hq : qX12_meanEvening μ a0) : rj_Sp g yX12_meanEvening wsX12_meanEvening (rj_rm 5 0) [.ref (ω.2.2 395), .int a0] ω μ (rj_D (.inl (some (.double (fX12_meanEvening μ a0)))) ω (mX12_meanEvening μ a0)) := by
  have hqa := hq
  unfold qX12_meanEvening at hqa
  refine rj_of' (cc := cX12_meanEvening) (nL := 4) (ret := (some .double)) (own := RX12) (l0 := [(0, .ref (ω.2.2 395)), (1, .int a0)]) rfl (by decide +kernel) rfl (Nat.le_of_ble_eq_true rfl) rfl ?_
  refine rj_aload_n 0 dX12_meanEvening_0 rfl rfl ?_
  refine rj_iload_n 1 dX12_meanEvening_1 rfl rfl ?_
  refine rj_cS (rest := [.ref (ω.2.2 395)]) (sX12_isDay (g := g) (ω := ω) hω μ a0   ) gX12_meanEvening_X12_isDay rfl hSX12_isDay ⟨Nat.le_of_ble_eq_true rfl, Nat.le_of_ble_eq_true rfl⟩ dX12_meanEvening_2 rfl rfl rfl (Nat.le_of_ble_eq_true rfl) rfl (Nat.le_of_ble_eq_true rfl) rfl ?_
  refine rj_cV (rest := []) (sX12_lacks (g := g) (ω := ω) hω μ (fX12_isDay μ a0)   ) gX12_meanEvening_X12_lacks (rj_lt hω (k := 395) rfl) (rj_sh hω ly_395) rfl rfl hVX12_lacks ⟨Nat.le_of_ble_eq_true rfl, Nat.le_of_ble_eq_true rfl⟩ dX12_meanEvening_5 rfl rfl rfl (Nat.le_of_ble_eq_true rfl) rfl (Nat.le_of_ble_eq_true rfl) rfl ?_
  refine rj_if_eq dX12_meanEvening_8 rfl rfl (fun h1 => ?_) (fun h1 => ?_)
  · have hq1 := (And.left hqa) h1
    refine rj_iconst (v := 0) dX12_meanEvening_13 rfl (by decide) ?_
    refine rj_istore_n (l' := [(2, .int 0), (0, .ref (ω.2.2 395)), (1, .int a0)]) dX12_meanEvening_14 rfl (rj_bl rfl) rfl ?_
    refine rj_iconst (v := 0) dX12_meanEvening_15 rfl (by decide) ?_
    refine rj_istore_n (l' := [(3, .int 0), (2, .int 0), (0, .ref (ω.2.2 395)), (1, .int a0)]) dX12_meanEvening_16 rfl (rj_bl rfl) rfl ?_
    refine rj_sub (l' := [(0, .ref (ω.2.2 395)), (1, .int a0), (2, .int 0), (3, .int (nI 0))]) [2, 3, 1, 0] rfl ?_
    refine lX12_meanEvening_17u hω μ a0     h1 12 0 0 (mX12_lacks μ (fX12_isDay μ a0)) rfl (And.left hq1) ?_
    refine rj_iload_n 2 dX12_meanEvening_38 rfl rfl ?_
    refine rj_i2d dX12_meanEvening_39 rfl ?_
    refine rj_ldc2d (v := (4622945017495814144 : UInt64)) dX12_meanEvening_40 rfl (by decide +kernel) ?_
    refine rj_ddiv dX12_meanEvening_43 rfl (And.left (And.right hq1)) ?_
    exact rj_dret dX12_meanEvening_44 rfl (Nat.le_of_ble_eq_true rfl) (Nat.le_of_ble_eq_true rfl) ⟨(by unfold fX12_meanEvening; rw [if_pos h1]; try rfl), rfl, (by unfold mX12_meanEvening; rw [if_pos h1]; try rfl)⟩
  · skip
    refine rj_dconst0 dX12_meanEvening_11 rfl ?_
    exact rj_dret dX12_meanEvening_12 rfl (Nat.le_of_ble_eq_true rfl) (Nat.le_of_ble_eq_true rfl) ⟨(by unfold fX12_meanEvening; rw [if_neg h1]; try rfl), rfl, (by unfold mX12_meanEvening; rw [if_neg h1]; try rfl)⟩
