theorem hSX12_takesOut : yX12_takesOut.cls ≠ "java/lang/invoke/MethodHandle" ∧ yX12_takesOut.cls ≠ "java/lang/invoke/VarHandle" ∧ (parseMethodDescriptor yX12_takesOut.desc).map (fun d => d.parameters.length) = some 2 := by decide +kernel
theorem hVX12_takesOut : yX12_takesOut.cls = RX12 ∧ yX12_takesOut.cls ≠ "java/lang/invoke/MethodHandle" ∧ yX12_takesOut.cls ≠ "java/lang/invoke/VarHandle" ∧ (parseMethodDescriptor yX12_takesOut.desc).map (fun d => d.parameters.length) = some 2 := by decide +kernel
theorem vX12_takesOut_12 : ∀ w ∈ u_ws RX12 TX12 16, w ∈ wsX12_takesOut := by decide +kernel
theorem kX12_takesOut_9 : Cond.fieldLink RX12 9 (TX12 1).1 (TX12 1).2.1 (TX12 1).2.2.1 ∈ wsX12_takesOut := by decide +kernel
noncomputable def bX12_takesOut_2 (μ : rj_M) (a0 : Int32) (a1 : Int32) (s2 : Int32 × rj_M) : (Int32 × rj_M) ⊕ (Int32 × rj_M) := (if ((fX12_lineOf s2.2 a0) - 1) ≤ s2.1 then .inr (s2.1, s2.2) else .inl (s2.1 + 1, (rj_pi s2.2 396 (((331 + (13 * a0)) + 1) + s2.1).toNatClampNeg (fX12_inLine s2.2 a0 (s2.1 + 1)))))
noncomputable def qX12_takesOut_2 (μ : rj_M) (a0 : Int32) (a1 : Int32) (s2 : Int32 × rj_M) : Prop := (((((fX12_lineOf s2.2 a0) - 1) ≤ s2.1) → True) ∧ ((¬ (((fX12_lineOf s2.2 a0) - 1) ≤ s2.1)) → (vp_in (s2.1 + 1) 12 ∧ vp_in (((331 + (13 * a0)) + 1) + s2.1) 625 ∧ True)))
set_option maxHeartbeats 4000000 in
set_option maxRecDepth 100000 in
theorem lX12_takesOut_2 {g : rj_G} {ω : rj_W} (hω : rj_ok ω) (μ : rj_M) (a0 : Int32) (a1 : Int32)    (hp_a0 : (vp_in a0 3)) {F : rj_F} : ∀ (r : Nat) (s : Int32 × rj_M), (True → ra_we (qX12_takesOut_2 μ a0 a1) (bX12_takesOut_2 μ a0 a1) r s) → (rj_R g RX12 cX12_takesOut 4 none wsX12_takesOut [] (rj_rm 1 0) F 0 ω ((rj_we (bX12_takesOut_2 μ a0 a1) r s).2) [(0, .ref (ω.2.2 395)), (1, .int a0), (2, .int a1), (3, .int ((rj_we (bX12_takesOut_2 μ a0 a1) r s).1))] 44 []) → rj_R g RX12 cX12_takesOut 4 none wsX12_takesOut [] (rj_rm 1 0) F 0 ω s.2 [(0, .ref (ω.2.2 395)), (1, .int a0), (2, .int a1), (3, .int s.1)] 2 [] := by
  intro r
  induction r with
  | zero =>
    intro s hq0 K
    exact (ra_we_0 (hq0 True.intro)).elim
  | succ r ih =>
    intro s2 hq0 K
    have hqa := ra_we_q (hq0 True.intro)
    unfold qX12_takesOut_2 at hqa
    refine rj_iload_n 3 dX12_takesOut_2 rfl rfl ?_
    refine rj_aload_n 0 dX12_takesOut_3 rfl rfl ?_
    refine rj_iload_n 1 dX12_takesOut_4 rfl rfl ?_
    refine rj_cV (rest := [.int s2.1]) (sX12_lineOf (g := g) (ω := ω) hω s2.2 a0  hp_a0 ) gX12_takesOut_X12_lineOf (rj_lt hω (k := 395) rfl) (rj_sh hω ly_395) rfl rfl hVX12_lineOf ⟨Nat.le_of_ble_eq_true rfl, Nat.le_of_ble_eq_true rfl⟩ dX12_takesOut_5 rfl rfl rfl (Nat.le_of_ble_eq_true rfl) rfl (Nat.le_of_ble_eq_true rfl) rfl ?_
    refine rj_iconst (v := 1) dX12_takesOut_8 rfl (by decide) ?_
    refine rj_isub dX12_takesOut_9 rfl ?_
    refine rj_icmp_ge dX12_takesOut_10 rfl rfl (fun h1 => ?_) (fun h1 => ?_)
    · skip
      have e : bX12_takesOut_2 μ a0 a1 s2 = .inr (s2.1, s2.2) := by unfold bX12_takesOut_2; rw [if_pos h1]; try rfl
      exact rj_sub (l' := [(0, .ref (ω.2.2 395)), (1, .int a0), (2, .int a1), (3, .int s2.1)]) [0, 1, 2, 3] rfl (by rw [rj_we_r e] at K; exact K)
    · have hq2 := (And.right hqa) h1
      refine rj_aload_n 0 dX12_takesOut_13 rfl rfl ?_
      refine rj_getR (C0 := RX12) (T := TX12) (N := 16) (j := 1) (r := 396) dX12_takesOut_14 rfl vX12_takesOut_12 rfl (rj_lt hω (k := 395) rfl) (rj_sh hω ly_395) (by decide) kX12_takesOut_9 rfl ?_
      refine rj_sipush (v := 331) dX12_takesOut_17 rfl (by decide) ?_
      refine rj_bipush (v := 13) dX12_takesOut_20 rfl (by decide) ?_
      refine rj_iload_n 1 dX12_takesOut_22 rfl rfl ?_
      refine rj_imul dX12_takesOut_23 rfl ?_
      refine rj_iadd dX12_takesOut_24 rfl ?_
      refine rj_iconst (v := 1) dX12_takesOut_25 rfl (by decide) ?_
      refine rj_iadd dX12_takesOut_26 rfl ?_
      refine rj_iload_n 3 dX12_takesOut_27 rfl rfl ?_
      refine rj_iadd dX12_takesOut_28 rfl ?_
      refine rj_aload_n 0 dX12_takesOut_29 rfl rfl ?_
      refine rj_iload_n 1 dX12_takesOut_30 rfl rfl ?_
      refine rj_iload_n 3 dX12_takesOut_31 rfl rfl ?_
      refine rj_iconst (v := 1) dX12_takesOut_32 rfl (by decide) ?_
      refine rj_iadd dX12_takesOut_33 rfl ?_
      refine rj_cV (rest := [.int (((331 + (13 * a0)) + 1) + s2.1), .ref (ω.2.2 396)]) (sX12_inLine (g := g) (ω := ω) hω s2.2 a0 (s2.1 + 1)  hp_a0 (And.left hq2) ) gX12_takesOut_X12_inLine (rj_lt hω (k := 395) rfl) (rj_sh hω ly_395) rfl rfl hVX12_inLine ⟨Nat.le_of_ble_eq_true rfl, Nat.le_of_ble_eq_true rfl⟩ dX12_takesOut_34 rfl rfl rfl (Nat.le_of_ble_eq_true rfl) rfl (Nat.le_of_ble_eq_true rfl) rfl ?_
      refine rj_iast dX12_takesOut_37 rfl (rj_lt hω (k := 396) rfl) (rj_sh hω ly_396) (And.left (And.right hq2)) ?_
      refine rj_iinc (v := s2.1 + 1) (l' := [(3, .int (s2.1 + 1)), (0, .ref (ω.2.2 395)), (1, .int a0), (2, .int a1)]) 3 dX12_takesOut_38 rfl rfl rfl (rj_bl rfl) rfl ?_
      refine rj_goto dX12_takesOut_41 rfl ?_
      have e : bX12_takesOut_2 μ a0 a1 s2 = .inl (s2.1 + 1, (rj_pi s2.2 396 (((331 + (13 * a0)) + 1) + s2.1).toNatClampNeg (fX12_inLine s2.2 a0 (s2.1 + 1)))) := by unfold bX12_takesOut_2; rw [if_neg h1]; try rfl
      exact rj_sub (l' := [(0, .ref (ω.2.2 395)), (1, .int a0), (2, .int a1), (3, .int (s2.1 + 1))]) [1, 2, 3, 0] rfl (ih (s2.1 + 1, (rj_pi s2.2 396 (((331 + (13 * a0)) + 1) + s2.1).toNatClampNeg (fX12_inLine s2.2 a0 (s2.1 + 1)))) (fun _ => ra_we_n (hq0 True.intro) e) (by rw [rj_we_l e] at K; exact K))
set_option maxHeartbeats 4000000 in
theorem lX12_takesOut_2u {g : rj_G} {ω : rj_W} (hω : rj_ok ω) (μ : rj_M) (a0 : Int32) (a1 : Int32)    (hp_a0 : (vp_in a0 3)) {F : rj_F} : ∀ (r : Nat) (c0 : Int32) (c1 : rj_M), (True → ra_we (qX12_takesOut_2 μ a0 a1) (bX12_takesOut_2 μ a0 a1) r (c0, c1)) → (rj_R g RX12 cX12_takesOut 4 none wsX12_takesOut [] (rj_rm 1 0) F 0 ω ((rj_we (bX12_takesOut_2 μ a0 a1) r (c0, c1)).2) [(0, .ref (ω.2.2 395)), (1, .int a0), (2, .int a1), (3, .int ((rj_we (bX12_takesOut_2 μ a0 a1) r (c0, c1)).1))] 44 []) → rj_R g RX12 cX12_takesOut 4 none wsX12_takesOut [] (rj_rm 1 0) F 0 ω c1 [(0, .ref (ω.2.2 395)), (1, .int a0), (2, .int a1), (3, .int c0)] 2 [] := fun r c0 c1 => lX12_takesOut_2 hω μ a0 a1    hp_a0 r (c0, c1)
noncomputable def mX12_takesOut (μ : rj_M) (a0 : Int32) (a1 : Int32) : rj_M := (if a1 = 0 then (rj_pi (rj_pi ((rj_we (bX12_takesOut_2 μ a0 a1) 14 (a1, μ)).2) 396 (331 + (13 * a0)).toNatClampNeg ((((rj_we (bX12_takesOut_2 μ a0 a1) 14 (a1, μ)).2).1 396 (331 + (13 * a0)).toNatClampNeg) - 1)) 396 (370 + a0).toNatClampNeg ((rj_pi ((rj_we (bX12_takesOut_2 μ a0 a1) 14 (a1, μ)).2) 396 (331 + (13 * a0)).toNatClampNeg ((((rj_we (bX12_takesOut_2 μ a0 a1) 14 (a1, μ)).2).1 396 (331 + (13 * a0)).toNatClampNeg) - 1)).1 396 (330 : Int32).toNatClampNeg)) else (rj_pi ((rj_we (bX12_takesOut_2 μ a0 a1) 14 (a1, μ)).2) 396 (331 + (13 * a0)).toNatClampNeg ((((rj_we (bX12_takesOut_2 μ a0 a1) 14 (a1, μ)).2).1 396 (331 + (13 * a0)).toNatClampNeg) - 1)))
noncomputable def qX12_takesOut (μ : rj_M) (a0 : Int32) (a1 : Int32) : Prop := ((True → ra_we (qX12_takesOut_2 μ a0 a1) (bX12_takesOut_2 μ a0 a1) 14 (a1, μ)) ∧ True)
set_option maxHeartbeats 40000000 in
set_option maxRecDepth 100000 in
theorem sX12_takesOut {g : rj_G} {ω : rj_W} (hω : rj_ok ω) (μ : rj_M) (a0 : Int32) (a1 : Int32)  (hp_a0 : vp_in a0 3)  (hq : qX12_takesOut μ a0 a1) : rj_Sp g yX12_takesOut wsX12_takesOut (rj_rm 1 0) [.ref (ω.2.2 395), .int a0, .int a1] ω μ (rj_D (.inl none) ω (mX12_takesOut μ a0 a1)) := by
  have hqa := hq
  unfold qX12_takesOut at hqa
  refine rj_of' (cc := cX12_takesOut) (nL := 4) (ret := none) (own := RX12) (l0 := [(0, .ref (ω.2.2 395)), (1, .int a0), (2, .int a1)]) rfl (by decide +kernel) rfl (Nat.le_of_ble_eq_true rfl) rfl ?_
  refine rj_iload_n 2 dX12_takesOut_0 rfl rfl ?_
  refine rj_istore_n (l' := [(3, .int a1), (0, .ref (ω.2.2 395)), (1, .int a0), (2, .int a1)]) dX12_takesOut_1 rfl (rj_bl rfl) rfl ?_
  refine rj_sub (l' := [(0, .ref (ω.2.2 395)), (1, .int a0), (2, .int a1), (3, .int a1)]) [1, 2, 3, 0] rfl ?_
  refine lX12_takesOut_2u hω μ a0 a1    hp_a0 14 a1 μ (And.left hqa) ?_
  refine rj_aload_n 0 dX12_takesOut_44 rfl rfl ?_
  refine rj_getR (C0 := RX12) (T := TX12) (N := 16) (j := 1) (r := 396) dX12_takesOut_45 rfl vX12_takesOut_12 rfl (rj_lt hω (k := 395) rfl) (rj_sh hω ly_395) (by decide) kX12_takesOut_9 rfl ?_
  refine rj_sipush (v := 331) dX12_takesOut_48 rfl (by decide) ?_
  refine rj_bipush (v := 13) dX12_takesOut_51 rfl (by decide) ?_
  refine rj_iload_n 1 dX12_takesOut_53 rfl rfl ?_
  refine rj_imul dX12_takesOut_54 rfl ?_
  refine rj_iadd dX12_takesOut_55 rfl ?_
  refine rj_dup2 dX12_takesOut_56 rfl rfl rfl ?_
  refine rj_iald dX12_takesOut_57 rfl (rj_lt hω (k := 396) rfl) (rj_sh hω ly_396) (rj_vle (rj_vadd (N := 358) (vp_in_nI (n := 331) (N := 332) (rj_bl rfl) (rj_bl rfl)) (rj_vmul (k := 13) (N := 27) hp_a0 rfl rfl) rfl rfl) rfl) ?_
  refine rj_iconst (v := 1) dX12_takesOut_58 rfl (by decide) ?_
  refine rj_isub dX12_takesOut_59 rfl ?_
  refine rj_iast dX12_takesOut_60 rfl (rj_lt hω (k := 396) rfl) (rj_sh hω ly_396) (rj_vle (rj_vadd (N := 358) (vp_in_nI (n := 331) (N := 332) (rj_bl rfl) (rj_bl rfl)) (rj_vmul (k := 13) (N := 27) hp_a0 rfl rfl) rfl rfl) rfl) ?_
  refine rj_iload_n 2 dX12_takesOut_61 rfl rfl ?_
  refine rj_if_ne dX12_takesOut_62 rfl rfl (fun h2 => ?_) (fun h2 => ?_)
  · skip
    exact rj_vret dX12_takesOut_83 rfl (Nat.le_of_ble_eq_true rfl) (Nat.le_of_ble_eq_true rfl) ⟨rfl, rfl, (by unfold mX12_takesOut; rw [if_neg h2]; try rfl)⟩
  · skip
    refine rj_aload_n 0 dX12_takesOut_65 rfl rfl ?_
    refine rj_getR (C0 := RX12) (T := TX12) (N := 16) (j := 1) (r := 396) dX12_takesOut_66 rfl vX12_takesOut_12 rfl (rj_lt hω (k := 395) rfl) (rj_sh hω ly_395) (by decide) kX12_takesOut_9 rfl ?_
    refine rj_sipush (v := 370) dX12_takesOut_69 rfl (by decide) ?_
    refine rj_iload_n 1 dX12_takesOut_72 rfl rfl ?_
    refine rj_iadd dX12_takesOut_73 rfl ?_
    refine rj_aload_n 0 dX12_takesOut_74 rfl rfl ?_
    refine rj_getR (C0 := RX12) (T := TX12) (N := 16) (j := 1) (r := 396) dX12_takesOut_75 rfl vX12_takesOut_12 rfl (rj_lt hω (k := 395) rfl) (rj_sh hω ly_395) (by decide) kX12_takesOut_9 rfl ?_
    refine rj_sipush (v := 330) dX12_takesOut_78 rfl (by decide) ?_
    refine rj_iald dX12_takesOut_81 rfl (rj_lt hω (k := 396) rfl) (rj_sh hω ly_396) (vp_in_nI (n := 330) (rj_bl rfl) (rj_bl rfl)) ?_
    refine rj_iast dX12_takesOut_82 rfl (rj_lt hω (k := 396) rfl) (rj_sh hω ly_396) (rj_vle (rj_vadd (N := 373) (vp_in_nI (n := 370) (N := 371) (rj_bl rfl) (rj_bl rfl)) hp_a0 rfl rfl) rfl) ?_
    exact rj_vret dX12_takesOut_83 rfl (Nat.le_of_ble_eq_true rfl) (Nat.le_of_ble_eq_true rfl) ⟨rfl, rfl, (by unfold mX12_takesOut; rw [if_pos h2]; try rfl)⟩
theorem hSX12_leave : yX12_leave.cls ≠ "java/lang/invoke/MethodHandle" ∧ yX12_leave.cls ≠ "java/lang/invoke/VarHandle" ∧ (parseMethodDescriptor yX12_leave.desc).map (fun d => d.parameters.length) = some 1 := by decide +kernel
theorem hVX12_leave : yX12_leave.cls = RX12 ∧ yX12_leave.cls ≠ "java/lang/invoke/MethodHandle" ∧ yX12_leave.cls ≠ "java/lang/invoke/VarHandle" ∧ (parseMethodDescriptor yX12_leave.desc).map (fun d => d.parameters.length) = some 1 := by decide +kernel
noncomputable def bX12_leave_47 (μ : rj_M) (a0 : Int32) (s47 : Int32) : Int32 ⊕ Int32 := (if (fX12_inLine (mX12_keeps (mX12_lacks μ (fX12_isVisitor μ a0))) (fX12_barOf (mX12_keeps (mX12_lacks μ (fX12_isVisitor μ a0))) a0) s47) = a0 then .inr s47 else .inl (s47 + 1))
noncomputable def qX12_leave_47 (μ : rj_M) (a0 : Int32) (s47 : Int32) : Prop := (vp_in (fX12_barOf (mX12_keeps (mX12_lacks μ (fX12_isVisitor μ a0))) a0) 3 ∧ vp_in s47 12 ∧ True)
set_option maxHeartbeats 4000000 in
set_option maxRecDepth 100000 in
theorem lX12_leave_47 {g : rj_G} {ω : rj_W} (hω : rj_ok ω) (μ : rj_M) (a0 : Int32)    (h1 : ((fX12_lacks μ (fX12_isVisitor μ a0)) = 0)) (h2 : ¬ ((fX12_barOf (mX12_lacks μ (fX12_isVisitor μ a0)) a0) = (-1))) {F : rj_F} : ∀ (r : Nat) (s : Int32), (True → ra_we (qX12_leave_47 μ a0) (bX12_leave_47 μ a0) r s) → (rj_R g RX12 cX12_leave 4 (some .int) wsX12_leave [] (rj_rm 2 0) F 0 ω (mX12_keeps (mX12_lacks μ (fX12_isVisitor μ a0))) [(0, .ref (ω.2.2 395)), (1, .int a0), (2, .int (fX12_barOf (mX12_keeps (mX12_lacks μ (fX12_isVisitor μ a0))) a0)), (3, .int (rj_we (bX12_leave_47 μ a0) r s))] 63 []) → rj_R g RX12 cX12_leave 4 (some .int) wsX12_leave [] (rj_rm 2 0) F 0 ω (mX12_keeps (mX12_lacks μ (fX12_isVisitor μ a0))) [(0, .ref (ω.2.2 395)), (1, .int a0), (2, .int (fX12_barOf (mX12_keeps (mX12_lacks μ (fX12_isVisitor μ a0))) a0)), (3, .int s)] 47 [] := by
  intro r
  induction r with
  | zero =>
    intro s hq0 K
    exact (ra_we_0 (hq0 True.intro)).elim
  | succ r ih =>
    intro s47 hq0 K
    have hqa := ra_we_q (hq0 True.intro)
    unfold qX12_leave_47 at hqa
    refine rj_aload_n 0 dX12_leave_47 rfl rfl ?_
    refine rj_iload_n 2 dX12_leave_48 rfl rfl ?_
    refine rj_iload_n 3 dX12_leave_49 rfl rfl ?_
    refine rj_cV (rest := []) (sX12_inLine (g := g) (ω := ω) hω (mX12_keeps (mX12_lacks μ (fX12_isVisitor μ a0))) (fX12_barOf (mX12_keeps (mX12_lacks μ (fX12_isVisitor μ a0))) a0) s47  (And.left hqa) (And.left (And.right hqa)) ) gX12_leave_X12_inLine (rj_lt hω (k := 395) rfl) (rj_sh hω ly_395) rfl rfl hVX12_inLine ⟨Nat.le_of_ble_eq_true rfl, Nat.le_of_ble_eq_true rfl⟩ dX12_leave_50 rfl rfl rfl (Nat.le_of_ble_eq_true rfl) rfl (Nat.le_of_ble_eq_true rfl) rfl ?_
    refine rj_iload_n 1 dX12_leave_53 rfl rfl ?_
    refine rj_icmp_eq dX12_leave_54 rfl rfl (fun h5 => ?_) (fun h5 => ?_)
    · skip
      have e : bX12_leave_47 μ a0 s47 = .inr s47 := by unfold bX12_leave_47; rw [if_pos h5]; try rfl
      exact rj_sub (l' := [(0, .ref (ω.2.2 395)), (1, .int a0), (2, .int (fX12_barOf (mX12_keeps (mX12_lacks μ (fX12_isVisitor μ a0))) a0)), (3, .int s47)]) [0, 1, 2, 3] rfl (by rw [rj_we_r e] at K; exact K)
    · skip
      refine rj_iinc (v := s47 + 1) (l' := [(3, .int (s47 + 1)), (0, .ref (ω.2.2 395)), (1, .int a0), (2, .int (fX12_barOf (mX12_keeps (mX12_lacks μ (fX12_isVisitor μ a0))) a0))]) 3 dX12_leave_57 rfl rfl rfl (rj_bl rfl) rfl ?_
      refine rj_goto dX12_leave_60 rfl ?_
      have e : bX12_leave_47 μ a0 s47 = .inl (s47 + 1) := by unfold bX12_leave_47; rw [if_neg h5]; try rfl
      exact rj_sub (l' := [(0, .ref (ω.2.2 395)), (1, .int a0), (2, .int (fX12_barOf (mX12_keeps (mX12_lacks μ (fX12_isVisitor μ a0))) a0)), (3, .int (s47 + 1))]) [1, 2, 3, 0] rfl (ih (s47 + 1) (fun _ => ra_we_n (hq0 True.intro) e) (by rw [rj_we_l e] at K; exact K))
noncomputable def fX12_leave (μ : rj_M) (a0 : Int32) : Int32 := (if (fX12_lacks μ (fX12_isVisitor μ a0)) = 0 then (if (fX12_barOf (mX12_lacks μ (fX12_isVisitor μ a0)) a0) = (-1) then 0 else (fX12_barOf (mX12_keeps (mX12_lacks μ (fX12_isVisitor μ a0))) a0)) else 0)
noncomputable def mX12_leave (μ : rj_M) (a0 : Int32) : rj_M := (if (fX12_lacks μ (fX12_isVisitor μ a0)) = 0 then (if (fX12_barOf (mX12_lacks μ (fX12_isVisitor μ a0)) a0) = (-1) then (mX12_noF (mX12_lacks μ (fX12_isVisitor μ a0)) 2) else (mX12_takesOut (mX12_keeps (mX12_lacks μ (fX12_isVisitor μ a0))) (fX12_barOf (mX12_keeps (mX12_lacks μ (fX12_isVisitor μ a0))) a0) (rj_we (bX12_leave_47 μ a0) 14 0))) else (mX12_lacks μ (fX12_isVisitor μ a0)))
noncomputable def qX12_leave (μ : rj_M) (a0 : Int32) : Prop := ((((fX12_lacks μ (fX12_isVisitor μ a0)) = 0) → (qX12_barOf (mX12_lacks μ (fX12_isVisitor μ a0)) a0 ∧ ((((fX12_barOf (mX12_lacks μ (fX12_isVisitor μ a0)) a0) = (-1)) → True) ∧ ((¬ ((fX12_barOf (mX12_lacks μ (fX12_isVisitor μ a0)) a0) = (-1))) → (qX12_keeps (mX12_lacks μ (fX12_isVisitor μ a0)) ∧ qX12_barOf (mX12_keeps (mX12_lacks μ (fX12_isVisitor μ a0))) a0 ∧ ((True → ra_we (qX12_leave_47 μ a0) (bX12_leave_47 μ a0) 14 0) ∧ (vp_in (fX12_barOf (mX12_keeps (mX12_lacks μ (fX12_isVisitor μ a0))) a0) 3 ∧ qX12_takesOut (mX12_keeps (mX12_lacks μ (fX12_isVisitor μ a0))) (fX12_barOf (mX12_keeps (mX12_lacks μ (fX12_isVisitor μ a0))) a0) (rj_we (bX12_leave_47 μ a0) 14 0) ∧ True))))))) ∧ ((¬ ((fX12_lacks μ (fX12_isVisitor μ a0)) = 0)) → True))
set_option maxHeartbeats 40000000 in
set_option maxRecDepth 100000 in
theorem sX12_leave {g : rj_G} {ω : rj_W} (hω : rj_ok ω) (μ : rj_M) (a0 : Int32)   (hq : qX12_leave μ a0) : rj_Sp g yX12_leave wsX12_leave (rj_rm 2 0) [.ref (ω.2.2 395), .int a0] ω μ (rj_D (.inl (some (.int (fX12_leave μ a0)))) ω (mX12_leave μ a0)) := by
  have hqa := hq
  unfold qX12_leave at hqa
  refine rj_of' (cc := cX12_leave) (nL := 4) (ret := (some .int)) (own := RX12) (l0 := [(0, .ref (ω.2.2 395)), (1, .int a0)]) rfl (by decide +kernel) rfl (Nat.le_of_ble_eq_true rfl) rfl ?_
  refine rj_aload_n 0 dX12_leave_0 rfl rfl ?_
  refine rj_iload_n 1 dX12_leave_1 rfl rfl ?_
  refine rj_cS (rest := [.ref (ω.2.2 395)]) (sX12_isVisitor (g := g) (ω := ω) hω μ a0   ) gX12_leave_X12_isVisitor rfl hSX12_isVisitor ⟨Nat.le_of_ble_eq_true rfl, Nat.le_of_ble_eq_true rfl⟩ dX12_leave_2 rfl rfl rfl (Nat.le_of_ble_eq_true rfl) rfl (Nat.le_of_ble_eq_true rfl) rfl ?_
  refine rj_cV (rest := []) (sX12_lacks (g := g) (ω := ω) hω μ (fX12_isVisitor μ a0)   ) gX12_leave_X12_lacks (rj_lt hω (k := 395) rfl) (rj_sh hω ly_395) rfl rfl hVX12_lacks ⟨Nat.le_of_ble_eq_true rfl, Nat.le_of_ble_eq_true rfl⟩ dX12_leave_5 rfl rfl rfl (Nat.le_of_ble_eq_true rfl) rfl (Nat.le_of_ble_eq_true rfl) rfl ?_
  refine rj_if_ne dX12_leave_8 rfl rfl (fun h1 => ?_) (fun h1 => ?_)
  · skip
    refine rj_iconst (v := 0) dX12_leave_33 rfl (by decide) ?_
    exact rj_iret dX12_leave_34 rfl (Nat.le_of_ble_eq_true rfl) (Nat.le_of_ble_eq_true rfl) ⟨(by unfold fX12_leave; rw [if_neg h1]; try rfl), rfl, (by unfold mX12_leave; rw [if_neg h1]; try rfl)⟩
  · have hq2 := (And.left hqa) h1
    refine rj_aload_n 0 dX12_leave_11 rfl rfl ?_
    refine rj_aload_n 0 dX12_leave_12 rfl rfl ?_
    refine rj_iload_n 1 dX12_leave_13 rfl rfl ?_
    refine rj_cV (rest := [.ref (ω.2.2 395)]) (sX12_barOf (g := g) (ω := ω) hω (mX12_lacks μ (fX12_isVisitor μ a0)) a0   (And.left hq2)) gX12_leave_X12_barOf (rj_lt hω (k := 395) rfl) (rj_sh hω ly_395) rfl rfl hVX12_barOf ⟨Nat.le_of_ble_eq_true rfl, Nat.le_of_ble_eq_true rfl⟩ dX12_leave_14 rfl rfl rfl (Nat.le_of_ble_eq_true rfl) rfl (Nat.le_of_ble_eq_true rfl) rfl ?_
    refine rj_iconst (v := (-1)) dX12_leave_17 rfl (by decide) ?_
    refine rj_icmp_eq dX12_leave_18 rfl rfl (fun h2 => ?_) (fun h2 => ?_)
    · skip
      refine rj_iconst (v := 0) dX12_leave_25 rfl (by decide) ?_
      refine rj_iconst (v := 2) dX12_leave_26 rfl (by decide) ?_
      refine rj_cV (rest := []) (sX12_noF (g := g) (ω := ω) hω (mX12_lacks μ (fX12_isVisitor μ a0)) 2   ) gX12_leave_X12_no (rj_lt hω (k := 395) rfl) (rj_sh hω ly_395) rfl rfl hVX12_no ⟨Nat.le_of_ble_eq_true rfl, Nat.le_of_ble_eq_true rfl⟩ dX12_leave_27 rfl rfl rfl (Nat.le_of_ble_eq_true rfl) rfl (Nat.le_of_ble_eq_true rfl) rfl ?_
      refine rj_if_eq dX12_leave_30 rfl rfl (fun h3 => ?_) (fun h3 => ?_)
      · exact absurd h3 (by decide)
      · refine rj_iconst (v := 0) dX12_leave_33 rfl (by decide) ?_
        exact rj_iret dX12_leave_34 rfl (Nat.le_of_ble_eq_true rfl) (Nat.le_of_ble_eq_true rfl) ⟨(by unfold fX12_leave; rw [if_pos h1]; rw [if_pos h2]; try rfl), rfl, (by unfold mX12_leave; rw [if_pos h1]; rw [if_pos h2]; try rfl)⟩
    · have hq4 := (And.right (And.right hq2)) h2
      refine rj_iconst (v := 1) dX12_leave_21 rfl (by decide) ?_
      refine rj_goto dX12_leave_22 rfl ?_
      refine rj_iconst (v := 2) dX12_leave_26 rfl (by decide) ?_
      refine rj_cV (rest := []) (sX12_noT (g := g) (ω := ω) hω (mX12_lacks μ (fX12_isVisitor μ a0)) 2   ) gX12_leave_X12_no (rj_lt hω (k := 395) rfl) (rj_sh hω ly_395) rfl rfl hVX12_no ⟨Nat.le_of_ble_eq_true rfl, Nat.le_of_ble_eq_true rfl⟩ dX12_leave_27 rfl rfl rfl (Nat.le_of_ble_eq_true rfl) rfl (Nat.le_of_ble_eq_true rfl) rfl ?_
      refine rj_if_eq dX12_leave_30 rfl rfl (fun h4 => ?_) (fun h4 => ?_)
      · refine rj_aload_n 0 dX12_leave_35 rfl rfl ?_
        refine rj_cV (rest := []) (sX12_keeps (g := g) (ω := ω) hω (mX12_lacks μ (fX12_isVisitor μ a0))   (And.left hq4)) gX12_leave_X12_keeps (rj_lt hω (k := 395) rfl) (rj_sh hω ly_395) rfl rfl hVX12_keeps ⟨Nat.le_of_ble_eq_true rfl, Nat.le_of_ble_eq_true rfl⟩ dX12_leave_36 rfl rfl rfl (Nat.le_of_ble_eq_true rfl) rfl (Nat.le_of_ble_eq_true rfl) rfl ?_
        refine rj_aload_n 0 dX12_leave_39 rfl rfl ?_
        refine rj_iload_n 1 dX12_leave_40 rfl rfl ?_
        refine rj_cV (rest := []) (sX12_barOf (g := g) (ω := ω) hω (mX12_keeps (mX12_lacks μ (fX12_isVisitor μ a0))) a0   (And.left (And.right hq4))) gX12_leave_X12_barOf (rj_lt hω (k := 395) rfl) (rj_sh hω ly_395) rfl rfl hVX12_barOf ⟨Nat.le_of_ble_eq_true rfl, Nat.le_of_ble_eq_true rfl⟩ dX12_leave_41 rfl rfl rfl (Nat.le_of_ble_eq_true rfl) rfl (Nat.le_of_ble_eq_true rfl) rfl ?_
        refine rj_istore_n (l' := [(2, .int (fX12_barOf (mX12_keeps (mX12_lacks μ (fX12_isVisitor μ a0))) a0)), (0, .ref (ω.2.2 395)), (1, .int a0)]) dX12_leave_44 rfl (rj_bl rfl) rfl ?_
        refine rj_iconst (v := 0) dX12_leave_45 rfl (by decide) ?_
        refine rj_istore_n (l' := [(3, .int 0), (2, .int (fX12_barOf (mX12_keeps (mX12_lacks μ (fX12_isVisitor μ a0))) a0)), (0, .ref (ω.2.2 395)), (1, .int a0)]) dX12_leave_46 rfl (rj_bl rfl) rfl ?_
        refine rj_sub (l' := [(0, .ref (ω.2.2 395)), (1, .int a0), (2, .int (fX12_barOf (mX12_keeps (mX12_lacks μ (fX12_isVisitor μ a0))) a0)), (3, .int 0)]) [2, 3, 1, 0] rfl ?_
        refine lX12_leave_47 hω μ a0    h1 h2 14 0 (And.left (And.right (And.right hq4))) ?_
        refine rj_aload_n 0 dX12_leave_63 rfl rfl ?_
        refine rj_iload_n 2 dX12_leave_64 rfl rfl ?_
        refine rj_iload_n 3 dX12_leave_65 rfl rfl ?_
        refine rj_cV (rest := []) (sX12_takesOut (g := g) (ω := ω) hω (mX12_keeps (mX12_lacks μ (fX12_isVisitor μ a0))) (fX12_barOf (mX12_keeps (mX12_lacks μ (fX12_isVisitor μ a0))) a0) (rj_we (bX12_leave_47 μ a0) 14 0)  (And.left (And.right (And.right (And.right hq4)))) (And.left (And.right (And.right (And.right (And.right hq4)))))) gX12_leave_X12_takesOut (rj_lt hω (k := 395) rfl) (rj_sh hω ly_395) rfl rfl hVX12_takesOut ⟨Nat.le_of_ble_eq_true rfl, Nat.le_of_ble_eq_true rfl⟩ dX12_leave_66 rfl rfl rfl (Nat.le_of_ble_eq_true rfl) rfl (Nat.le_of_ble_eq_true rfl) rfl ?_
        refine rj_iload_n 2 dX12_leave_69 rfl rfl ?_
        exact rj_iret dX12_leave_70 rfl (Nat.le_of_ble_eq_true rfl) (Nat.le_of_ble_eq_true rfl) ⟨(by unfold fX12_leave; rw [if_pos h1]; rw [if_neg h2]; try rfl), rfl, (by unfold mX12_leave; rw [if_pos h1]; rw [if_neg h2]; try rfl)⟩
      · exact absurd (by decide) h4
